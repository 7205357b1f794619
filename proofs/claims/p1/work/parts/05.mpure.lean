set_option maxHeartbeats 4000000 in
set_option maxRecDepth 100000 in
theorem c_X12_in (l : Launch) (D : va_G) (t : Nat → ClassId) (v : Int64) (lo : Int64) (hi : Int64) : Met l yX12_in (wd yX12_in cX12_in 6 (some .boolean)) (RM 0 0 0) (PreP D (TY t) [.long v, .long lo, .long hi] []) (QI (inV v lo hi)) 0 0 NoF := by
  refine Met.ofW (cc := cX12_in) (maxL := 6) (ret := (some .boolean)) (by decide) rfl ?_
  intro p e s m args below meth c s₁ B hml hv
  obtain ⟨rfl, hP, hK, hN⟩ := hv
  have hx := B.exec
  have hb := B.bytes
  have hr := B.returns
  have hts : ∀ w ∈ TB, w.before _ s = true := fun w h => atoms_spec (ws := wd yX12_in cX12_in 6 (some .boolean)) B.pre w (List.mem_cons_of_mem _ h)
  have hown : s.vm.findClass RX12 = some m.cls := findClass_of_methodNamed B.named
  have hlocks := B.notSynchronized
  have hF : CallFix p m c cX12_in 6 s _ TB RX12 := ⟨hx, hb, hml, hown, hts⟩
  have hl := lv_entry ([.long v, .long lo, .long hi]) (n := 6) (Nat.le_of_ble_eq_true rfl)
  rw [lg_entry_eq]
  generalize (lg_sl ([.long v, .long lo, .long hi]) ++ List.replicate (6 - (lg_sl ([.long v, .long lo, .long hi])).length) Slot.unset).toArray = ls at hl ⊢
  have hl : lv_has ls 6 [(0, .long v), (2, .long lo), (4, .long hi)] := hl
  have hS : va_S NoF s.heap s.heap [] := va_S.rf
  have hP : va_P D classes [] s.heap := hP
  refine lv_lload_n hx hb dX12_in_0 rfl (lv_at hl 0 rfl) ?_
  refine lv_lload_n hx hb dX12_in_1 rfl (lv_at hl 1 rfl) ?_
  refine W.lcmp hx hb dX12_in_2 ?_
  refine lv_if_lt (tgt := 17) hx hb dX12_in_3 (by decide) (fun c_1 => ?_) (fun c_1 => ?_)
  · refine lv_iconst (v := 0) hx hb dX12_in_17 (by decide) ?_
    exact W.zret (v := 0) hx hb hr rfl (fun t9 ht hW => ⟨⟨0, (), rfl, (inV_a c_1).symm, trivial⟩, hS.F ht⟩) hS.2.2 dX12_in_18
  · refine lv_lload_n hx hb dX12_in_6 rfl (lv_at hl 0 rfl) ?_
    refine lv_lload hx hb dX12_in_7 (lv_at hl 2 rfl) ?_
    refine W.lcmp hx hb dX12_in_9 ?_
    refine lv_if_gt (tgt := 17) hx hb dX12_in_10 (by decide) (fun c_2 => ?_) (fun c_2 => ?_)
    · refine lv_iconst (v := 0) hx hb dX12_in_17 (by decide) ?_
      exact W.zret (v := 0) hx hb hr rfl (fun t9 ht hW => ⟨⟨0, (), rfl, (inV_b c_2).symm, trivial⟩, hS.F ht⟩) hS.2.2 dX12_in_18
    · refine lv_iconst (v := 1) hx hb dX12_in_13 (by decide) ?_
      refine lv_goto (tgt := 18) hx hb dX12_in_14 (by decide) ?_
      exact W.zret (v := 1) hx hb hr rfl (fun t9 ht hW => ⟨⟨1, (), rfl, (inV_c c_1 c_2).symm, trivial⟩, hS.F ht⟩) hS.2.2 dX12_in_18

set_option maxHeartbeats 4000000 in
set_option maxRecDepth 100000 in
theorem c_X12_isChamber (l : Launch) (D : va_G) (t : Nat → ClassId) (b : Nat → Nat) : Met l yX12_isChamber (wd yX12_isChamber cX12_isChamber 1 (some .boolean)) (RM 0 0 0) (PreP D (TY t) [.ref (b 0)] [(b 0, .inr (12, [.int 0, .ref (b 1), .ref (b 2), .ref (b 3), .ref (b 4), .int 0, .ref (b 5), .int 0, .int 0, .int 0, .int 0, .int 0, .int 0, .int (-1), .ref (b 6), .int 0, .ref (b 7), .int 0, .int (-1), .int 0, .ref (b 8), .int 0, .ref (b 9), .int 0, .ref (b 10), .ref (b 11), .ref (b 12), .int 0, .int 0, .int 0, .ref (b 13), .ref (b 14), .ref (b 15), .int 0, .int 0, .int 0, .ref (b 16), .ref (b 17), .ref (b 18), .ref (b 19)])), (b 1, .inl (t 0, 841, .inl (fun _ => 0)))]) (QI 0) 0 0 NoF := by
  refine Met.ofW (cc := cX12_isChamber) (maxL := 1) (ret := (some .boolean)) (by decide) rfl ?_
  intro p e s m args below meth c s₁ B hml hv
  obtain ⟨rfl, hP, hK, hN⟩ := hv
  have hx := B.exec
  have hb := B.bytes
  have hr := B.returns
  have hts : ∀ w ∈ TB, w.before _ s = true := fun w h => atoms_spec (ws := wd yX12_isChamber cX12_isChamber 1 (some .boolean)) B.pre w (List.mem_cons_of_mem _ h)
  have hown : s.vm.findClass RX12 = some m.cls := findClass_of_methodNamed B.named
  have hlocks := B.notSynchronized
  have hF : CallFix p m c cX12_isChamber 1 s _ TB RX12 := ⟨hx, hb, hml, hown, hts⟩
  have hl := lv_entry ([.ref (b 0)]) (n := 1) (Nat.le_of_ble_eq_true rfl)
  rw [lg_entry_eq]
  generalize (lg_sl ([.ref (b 0)]) ++ List.replicate (1 - (lg_sl ([.ref (b 0)])).length) Slot.unset).toArray = ls at hl ⊢
  have hl : lv_has ls 1 [(0, .ref (b 0))] := hl
  have hS : va_S NoF s.heap s.heap [] := va_S.rf
  have hP : va_P D classes [(b 0, .inr (12, [.int 0, .ref (b 1), .ref (b 2), .ref (b 3), .ref (b 4), .int 0, .ref (b 5), .int 0, .int 0, .int 0, .int 0, .int 0, .int 0, .int (-1), .ref (b 6), .int 0, .ref (b 7), .int 0, .int (-1), .int 0, .ref (b 8), .int 0, .ref (b 9), .int 0, .ref (b 10), .ref (b 11), .ref (b 12), .int 0, .int 0, .int 0, .ref (b 13), .ref (b 14), .ref (b 15), .int 0, .int 0, .int 0, .ref (b 16), .ref (b 17), .ref (b 18), .ref (b 19)])), (b 1, .inl (t 0, 841, .inl (fun _ => 0)))] s.heap := hP
  refine lv_aload_n hx hb dX12_isChamber_0 rfl (lv_at hl 0 rfl) ?_
  refine va_get (D := D) (ci := 12) (v := .ref (b 1)) (C := RX12) (T := TX12) (N := 40) hx hb hts iX12 hown hK hP 0 rfl rfl 1 (by decide) (hts _ m_1344) (fun _ h9 => h9) rfl dX12_isChamber_1 ?_
  refine lv_bipush (v := 9) hx hb dX12_isChamber_4 (by decide) ?_
  refine va_iald hx hb hK hP 1 0 rfl rfl (vp_in_nI (n := 9) (by decide) (by decide)) dX12_isChamber_6 ?_
  refine x_seti 0 rfl ?_
  refine lv_if_le (tgt := 14) hx hb dX12_isChamber_7 (by decide) (fun _ => ?_) (fun c9 => absurd (by decide) c9)
  refine lv_iconst (v := 0) hx hb dX12_isChamber_14 (by decide) ?_
  exact W.zret (v := 0) hx hb hr rfl (fun t9 ht hW => ⟨⟨0, (), rfl, rfl, trivial⟩, hS.F ht⟩) hS.2.2 dX12_isChamber_15

set_option maxHeartbeats 4000000 in
set_option maxRecDepth 100000 in
theorem c_X12_isMeaning (l : Launch) (D : va_G) (t : Nat → ClassId) (b : Nat → Nat) (x : Int64) : Met l yX12_isMeaning (wd yX12_isMeaning cX12_isMeaning 3 (some .boolean)) (RM 1 0 0) (PreP D (TY t) [.ref (b 0), .long x] [(b 0, .inr (12, [.int 0, .ref (b 1), .ref (b 2), .ref (b 3), .ref (b 4), .int 0, .ref (b 5), .int 0, .int 0, .int 0, .int 0, .int 0, .int 0, .int (-1), .ref (b 6), .int 0, .ref (b 7), .int 0, .int (-1), .int 0, .ref (b 8), .int 0, .ref (b 9), .int 0, .ref (b 10), .ref (b 11), .ref (b 12), .int 0, .int 0, .int 0, .ref (b 13), .ref (b 14), .ref (b 15), .int 0, .int 0, .int 0, .ref (b 16), .ref (b 17), .ref (b 18), .ref (b 19)])), (b 1, .inl (t 0, 841, .inl (fun _ => 0)))]) (QI 0) 0 0 NoF := by
  refine Met.ofW (cc := cX12_isMeaning) (maxL := 3) (ret := (some .boolean)) (by decide) rfl ?_
  intro p e s m args below meth c s₁ B hml hv
  obtain ⟨rfl, hP, hK, hN⟩ := hv
  have hx := B.exec
  have hb := B.bytes
  have hr := B.returns
  have hts : ∀ w ∈ TB, w.before _ s = true := fun w h => atoms_spec (ws := wd yX12_isMeaning cX12_isMeaning 3 (some .boolean)) B.pre w (List.mem_cons_of_mem _ h)
  have hown : s.vm.findClass RX12 = some m.cls := findClass_of_methodNamed B.named
  have hlocks := B.notSynchronized
  have hF : CallFix p m c cX12_isMeaning 3 s _ TB RX12 := ⟨hx, hb, hml, hown, hts⟩
  have hl := lv_entry ([.ref (b 0), .long x]) (n := 3) (Nat.le_of_ble_eq_true rfl)
  rw [lg_entry_eq]
  generalize (lg_sl ([.ref (b 0), .long x]) ++ List.replicate (3 - (lg_sl ([.ref (b 0), .long x])).length) Slot.unset).toArray = ls at hl ⊢
  have hl : lv_has ls 3 [(0, .ref (b 0)), (1, .long x)] := hl
  have hS : va_S NoF s.heap s.heap [] := va_S.rf
  have hP : va_P D classes [(b 0, .inr (12, [.int 0, .ref (b 1), .ref (b 2), .ref (b 3), .ref (b 4), .int 0, .ref (b 5), .int 0, .int 0, .int 0, .int 0, .int 0, .int 0, .int (-1), .ref (b 6), .int 0, .ref (b 7), .int 0, .int (-1), .int 0, .ref (b 8), .int 0, .ref (b 9), .int 0, .ref (b 10), .ref (b 11), .ref (b 12), .int 0, .int 0, .int 0, .ref (b 13), .ref (b 14), .ref (b 15), .int 0, .int 0, .int 0, .ref (b 16), .ref (b 17), .ref (b 18), .ref (b 19)])), (b 1, .inl (t 0, 841, .inl (fun _ => 0)))] s.heap := hP
  refine lv_lload_n hx hb dX12_isMeaning_0 rfl (lv_at hl 1 rfl) ?_
  refine lv_lconst (v := 0) hx hb dX12_isMeaning_1 rfl ?_
  refine lv_aload_n hx hb dX12_isMeaning_2 rfl (lv_at hl 0 rfl) ?_
  refine va_get (D := D) (ci := 12) (v := .ref (b 1)) (C := RX12) (T := TX12) (N := 40) hx hb hts iX12 hown hK hP 0 rfl rfl 1 (by decide) (hts _ m_1344) (fun _ h9 => h9) rfl dX12_isMeaning_3 ?_
  refine lv_iconst (v := 0) hx hb dX12_isMeaning_6 (by decide) ?_
  refine va_iald hx hb hK hP 1 0 rfl rfl (vp_in_nI (n := 0) (by decide) (by decide)) dX12_isMeaning_7 ?_
  refine x_seti 0 rfl ?_
  refine lv_iconst (v := 1) hx hb dX12_isMeaning_8 (by decide) ?_
  refine lv_isub hx hb dX12_isMeaning_9 ?_
  refine x_seti (-1) (by decide) ?_
  refine lv_i2l (v := (-1)) hx hb dX12_isMeaning_10 (by decide) ?_
  refine x_pS hF (c_X12_in l D t x 0 (-1)) m_1469 m_1470 m_13 m_1471 hd_X12_in ⟨Nat.le_of_ble_eq_true rfl, Nat.le_of_ble_eq_true rfl⟩ hK hN hP hS [] rfl hl.1 rfl (Nat.le_of_ble_eq_true rfl) dX12_isMeaning_11 ⟨Nat.zero_le _, Nat.zero_le _⟩ (fun H locs hP hS => ?_)
  refine x_seti 0 (inV_0 _) ?_
  exact W.zret (v := 0) hx hb hr rfl (fun t9 ht hW => ⟨⟨0, (), rfl, rfl, trivial⟩, hS.F ht⟩) hS.2.2 dX12_isMeaning_14

set_option maxHeartbeats 4000000 in
set_option maxRecDepth 100000 in
theorem c_X12_isWord (l : Launch) (D : va_G) (t : Nat → ClassId) (b : Nat → Nat) (x : Int64) : Met l yX12_isWord (wd yX12_isWord cX12_isWord 3 (some .boolean)) (RM 1 0 0) (PreP D (TY t) [.ref (b 0), .long x] [(b 0, .inr (12, [.int 0, .ref (b 1), .ref (b 2), .ref (b 3), .ref (b 4), .int 0, .ref (b 5), .int 0, .int 0, .int 0, .int 0, .int 0, .int 0, .int (-1), .ref (b 6), .int 0, .ref (b 7), .int 0, .int (-1), .int 0, .ref (b 8), .int 0, .ref (b 9), .int 0, .ref (b 10), .ref (b 11), .ref (b 12), .int 0, .int 0, .int 0, .ref (b 13), .ref (b 14), .ref (b 15), .int 0, .int 0, .int 0, .ref (b 16), .ref (b 17), .ref (b 18), .ref (b 19)])), (b 1, .inl (t 0, 841, .inl (fun _ => 0)))]) (QI 0) 0 0 NoF := by
  refine Met.ofW (cc := cX12_isWord) (maxL := 3) (ret := (some .boolean)) (by decide) rfl ?_
  intro p e s m args below meth c s₁ B hml hv
  obtain ⟨rfl, hP, hK, hN⟩ := hv
  have hx := B.exec
  have hb := B.bytes
  have hr := B.returns
  have hts : ∀ w ∈ TB, w.before _ s = true := fun w h => atoms_spec (ws := wd yX12_isWord cX12_isWord 3 (some .boolean)) B.pre w (List.mem_cons_of_mem _ h)
  have hown : s.vm.findClass RX12 = some m.cls := findClass_of_methodNamed B.named
  have hlocks := B.notSynchronized
  have hF : CallFix p m c cX12_isWord 3 s _ TB RX12 := ⟨hx, hb, hml, hown, hts⟩
  have hl := lv_entry ([.ref (b 0), .long x]) (n := 3) (Nat.le_of_ble_eq_true rfl)
  rw [lg_entry_eq]
  generalize (lg_sl ([.ref (b 0), .long x]) ++ List.replicate (3 - (lg_sl ([.ref (b 0), .long x])).length) Slot.unset).toArray = ls at hl ⊢
  have hl : lv_has ls 3 [(0, .ref (b 0)), (1, .long x)] := hl
  have hS : va_S NoF s.heap s.heap [] := va_S.rf
  have hP : va_P D classes [(b 0, .inr (12, [.int 0, .ref (b 1), .ref (b 2), .ref (b 3), .ref (b 4), .int 0, .ref (b 5), .int 0, .int 0, .int 0, .int 0, .int 0, .int 0, .int (-1), .ref (b 6), .int 0, .ref (b 7), .int 0, .int (-1), .int 0, .ref (b 8), .int 0, .ref (b 9), .int 0, .ref (b 10), .ref (b 11), .ref (b 12), .int 0, .int 0, .int 0, .ref (b 13), .ref (b 14), .ref (b 15), .int 0, .int 0, .int 0, .ref (b 16), .ref (b 17), .ref (b 18), .ref (b 19)])), (b 1, .inl (t 0, 841, .inl (fun _ => 0)))] s.heap := hP
  refine lv_lload_n hx hb dX12_isWord_0 rfl (lv_at hl 1 rfl) ?_
  refine lv_lconst (v := 0) hx hb dX12_isWord_1 rfl ?_
  refine lv_aload_n hx hb dX12_isWord_2 rfl (lv_at hl 0 rfl) ?_
  refine va_get (D := D) (ci := 12) (v := .ref (b 1)) (C := RX12) (T := TX12) (N := 40) hx hb hts iX12 hown hK hP 0 rfl rfl 1 (by decide) (hts _ m_1344) (fun _ h9 => h9) rfl dX12_isWord_3 ?_
  refine lv_iconst (v := 5) hx hb dX12_isWord_6 (by decide) ?_
  refine va_iald hx hb hK hP 1 0 rfl rfl (vp_in_nI (n := 5) (by decide) (by decide)) dX12_isWord_7 ?_
  refine x_seti 0 rfl ?_
  refine lv_iconst (v := 1) hx hb dX12_isWord_8 (by decide) ?_
  refine lv_isub hx hb dX12_isWord_9 ?_
  refine x_seti (-1) (by decide) ?_
  refine lv_i2l (v := (-1)) hx hb dX12_isWord_10 (by decide) ?_
  refine x_pS hF (c_X12_in l D t x 0 (-1)) m_1469 m_1470 m_13 m_1471 hd_X12_in ⟨Nat.le_of_ble_eq_true rfl, Nat.le_of_ble_eq_true rfl⟩ hK hN hP hS [] rfl hl.1 rfl (Nat.le_of_ble_eq_true rfl) dX12_isWord_11 ⟨Nat.zero_le _, Nat.zero_le _⟩ (fun H locs hP hS => ?_)
  refine x_seti 0 (inV_0 _) ?_
  exact W.zret (v := 0) hx hb hr rfl (fun t9 ht hW => ⟨⟨0, (), rfl, rfl, trivial⟩, hS.F ht⟩) hS.2.2 dX12_isWord_14

set_option maxHeartbeats 4000000 in
set_option maxRecDepth 100000 in
theorem c_X12_isDistrict (l : Launch) (D : va_G) (t : Nat → ClassId) (b : Nat → Nat) (x : Int32) : Met l yX12_isDistrict (wd yX12_isDistrict cX12_isDistrict 2 (some .boolean)) (RM 1 0 0) (PreP D (TY t) [.ref (b 0), .int x] [(b 0, .inr (12, [.int 0, .ref (b 1), .ref (b 2), .ref (b 3), .ref (b 4), .int 0, .ref (b 5), .int 0, .int 0, .int 0, .int 0, .int 0, .int 0, .int (-1), .ref (b 6), .int 0, .ref (b 7), .int 0, .int (-1), .int 0, .ref (b 8), .int 0, .ref (b 9), .int 0, .ref (b 10), .ref (b 11), .ref (b 12), .int 0, .int 0, .int 0, .ref (b 13), .ref (b 14), .ref (b 15), .int 0, .int 0, .int 0, .ref (b 16), .ref (b 17), .ref (b 18), .ref (b 19)])), (b 1, .inl (t 0, 841, .inl (fun _ => 0)))]) (QI 0) 0 0 NoF := by
  refine Met.ofW (cc := cX12_isDistrict) (maxL := 2) (ret := (some .boolean)) (by decide) rfl ?_
  intro p e s m args below meth c s₁ B hml hv
  obtain ⟨rfl, hP, hK, hN⟩ := hv
  have hx := B.exec
  have hb := B.bytes
  have hr := B.returns
  have hts : ∀ w ∈ TB, w.before _ s = true := fun w h => atoms_spec (ws := wd yX12_isDistrict cX12_isDistrict 2 (some .boolean)) B.pre w (List.mem_cons_of_mem _ h)
  have hown : s.vm.findClass RX12 = some m.cls := findClass_of_methodNamed B.named
  have hlocks := B.notSynchronized
  have hF : CallFix p m c cX12_isDistrict 2 s _ TB RX12 := ⟨hx, hb, hml, hown, hts⟩
  have hl := lv_entry ([.ref (b 0), .int x]) (n := 2) (Nat.le_of_ble_eq_true rfl)
  rw [lg_entry_eq]
  generalize (lg_sl ([.ref (b 0), .int x]) ++ List.replicate (2 - (lg_sl ([.ref (b 0), .int x])).length) Slot.unset).toArray = ls at hl ⊢
  have hl : lv_has ls 2 [(0, .ref (b 0)), (1, .int x)] := hl
  have hS : va_S NoF s.heap s.heap [] := va_S.rf
  have hP : va_P D classes [(b 0, .inr (12, [.int 0, .ref (b 1), .ref (b 2), .ref (b 3), .ref (b 4), .int 0, .ref (b 5), .int 0, .int 0, .int 0, .int 0, .int 0, .int 0, .int (-1), .ref (b 6), .int 0, .ref (b 7), .int 0, .int (-1), .int 0, .ref (b 8), .int 0, .ref (b 9), .int 0, .ref (b 10), .ref (b 11), .ref (b 12), .int 0, .int 0, .int 0, .ref (b 13), .ref (b 14), .ref (b 15), .int 0, .int 0, .int 0, .ref (b 16), .ref (b 17), .ref (b 18), .ref (b 19)])), (b 1, .inl (t 0, 841, .inl (fun _ => 0)))] s.heap := hP
  refine lv_iload_n hx hb dX12_isDistrict_0 rfl (lv_at hl 1 rfl) ?_
  refine lv_i2l hx hb dX12_isDistrict_1 rfl ?_
  refine lv_lconst (v := 0) hx hb dX12_isDistrict_2 rfl ?_
  refine lv_aload_n hx hb dX12_isDistrict_3 rfl (lv_at hl 0 rfl) ?_
  refine va_get (D := D) (ci := 12) (v := .ref (b 1)) (C := RX12) (T := TX12) (N := 40) hx hb hts iX12 hown hK hP 0 rfl rfl 1 (by decide) (hts _ m_1344) (fun _ h9 => h9) rfl dX12_isDistrict_4 ?_
  refine lv_iconst (v := 4) hx hb dX12_isDistrict_7 (by decide) ?_
  refine va_iald hx hb hK hP 1 0 rfl rfl (vp_in_nI (n := 4) (by decide) (by decide)) dX12_isDistrict_8 ?_
  refine x_seti 0 rfl ?_
  refine lv_iconst (v := 1) hx hb dX12_isDistrict_9 (by decide) ?_
  refine lv_isub hx hb dX12_isDistrict_10 ?_
  refine x_seti (-1) (by decide) ?_
  refine lv_i2l (v := (-1)) hx hb dX12_isDistrict_11 (by decide) ?_
  refine x_pS hF (c_X12_in l D t x.toInt64 0 (-1)) m_1469 m_1470 m_13 m_1471 hd_X12_in ⟨Nat.le_of_ble_eq_true rfl, Nat.le_of_ble_eq_true rfl⟩ hK hN hP hS [] rfl hl.1 rfl (Nat.le_of_ble_eq_true rfl) dX12_isDistrict_12 ⟨Nat.zero_le _, Nat.zero_le _⟩ (fun H locs hP hS => ?_)
  refine x_seti 0 (inV_0 _) ?_
  exact W.zret (v := 0) hx hb hr rfl (fun t9 ht hW => ⟨⟨0, (), rfl, rfl, trivial⟩, hS.F ht⟩) hS.2.2 dX12_isDistrict_15

set_option maxHeartbeats 4000000 in
set_option maxRecDepth 100000 in
theorem c_X12_isSpeaker (l : Launch) (D : va_G) (t : Nat → ClassId) (b : Nat → Nat) (x : Int32) : Met l yX12_isSpeaker (wd yX12_isSpeaker cX12_isSpeaker 2 (some .boolean)) (RM 1 0 0) (PreP D (TY t) [.ref (b 0), .int x] [(b 0, .inr (12, [.int 0, .ref (b 1), .ref (b 2), .ref (b 3), .ref (b 4), .int 0, .ref (b 5), .int 0, .int 0, .int 0, .int 0, .int 0, .int 0, .int (-1), .ref (b 6), .int 0, .ref (b 7), .int 0, .int (-1), .int 0, .ref (b 8), .int 0, .ref (b 9), .int 0, .ref (b 10), .ref (b 11), .ref (b 12), .int 0, .int 0, .int 0, .ref (b 13), .ref (b 14), .ref (b 15), .int 0, .int 0, .int 0, .ref (b 16), .ref (b 17), .ref (b 18), .ref (b 19)])), (b 1, .inl (t 0, 841, .inl (fun _ => 0)))]) (QI 0) 0 0 NoF := by
  refine Met.ofW (cc := cX12_isSpeaker) (maxL := 2) (ret := (some .boolean)) (by decide) rfl ?_
  intro p e s m args below meth c s₁ B hml hv
  obtain ⟨rfl, hP, hK, hN⟩ := hv
  have hx := B.exec
  have hb := B.bytes
  have hr := B.returns
  have hts : ∀ w ∈ TB, w.before _ s = true := fun w h => atoms_spec (ws := wd yX12_isSpeaker cX12_isSpeaker 2 (some .boolean)) B.pre w (List.mem_cons_of_mem _ h)
  have hown : s.vm.findClass RX12 = some m.cls := findClass_of_methodNamed B.named
  have hlocks := B.notSynchronized
  have hF : CallFix p m c cX12_isSpeaker 2 s _ TB RX12 := ⟨hx, hb, hml, hown, hts⟩
  have hl := lv_entry ([.ref (b 0), .int x]) (n := 2) (Nat.le_of_ble_eq_true rfl)
  rw [lg_entry_eq]
  generalize (lg_sl ([.ref (b 0), .int x]) ++ List.replicate (2 - (lg_sl ([.ref (b 0), .int x])).length) Slot.unset).toArray = ls at hl ⊢
  have hl : lv_has ls 2 [(0, .ref (b 0)), (1, .int x)] := hl
  have hS : va_S NoF s.heap s.heap [] := va_S.rf
  have hP : va_P D classes [(b 0, .inr (12, [.int 0, .ref (b 1), .ref (b 2), .ref (b 3), .ref (b 4), .int 0, .ref (b 5), .int 0, .int 0, .int 0, .int 0, .int 0, .int 0, .int (-1), .ref (b 6), .int 0, .ref (b 7), .int 0, .int (-1), .int 0, .ref (b 8), .int 0, .ref (b 9), .int 0, .ref (b 10), .ref (b 11), .ref (b 12), .int 0, .int 0, .int 0, .ref (b 13), .ref (b 14), .ref (b 15), .int 0, .int 0, .int 0, .ref (b 16), .ref (b 17), .ref (b 18), .ref (b 19)])), (b 1, .inl (t 0, 841, .inl (fun _ => 0)))] s.heap := hP
  refine lv_iload_n hx hb dX12_isSpeaker_0 rfl (lv_at hl 1 rfl) ?_
  refine lv_i2l hx hb dX12_isSpeaker_1 rfl ?_
  refine lv_lconst (v := 0) hx hb dX12_isSpeaker_2 rfl ?_
  refine lv_aload_n hx hb dX12_isSpeaker_3 rfl (lv_at hl 0 rfl) ?_
  refine va_get (D := D) (ci := 12) (v := .ref (b 1)) (C := RX12) (T := TX12) (N := 40) hx hb hts iX12 hown hK hP 0 rfl rfl 1 (by decide) (hts _ m_1344) (fun _ h9 => h9) rfl dX12_isSpeaker_4 ?_
  refine lv_bipush (v := 6) hx hb dX12_isSpeaker_7 (by decide) ?_
  refine va_iald hx hb hK hP 1 0 rfl rfl (vp_in_nI (n := 6) (by decide) (by decide)) dX12_isSpeaker_9 ?_
  refine x_seti 0 rfl ?_
  refine lv_iconst (v := 1) hx hb dX12_isSpeaker_10 (by decide) ?_
  refine lv_isub hx hb dX12_isSpeaker_11 ?_
  refine x_seti (-1) (by decide) ?_
  refine lv_i2l (v := (-1)) hx hb dX12_isSpeaker_12 (by decide) ?_
  refine x_pS hF (c_X12_in l D t x.toInt64 0 (-1)) m_1469 m_1470 m_13 m_1471 hd_X12_in ⟨Nat.le_of_ble_eq_true rfl, Nat.le_of_ble_eq_true rfl⟩ hK hN hP hS [] rfl hl.1 rfl (Nat.le_of_ble_eq_true rfl) dX12_isSpeaker_13 ⟨Nat.zero_le _, Nat.zero_le _⟩ (fun H locs hP hS => ?_)
  refine x_seti 0 (inV_0 _) ?_
  exact W.zret (v := 0) hx hb hr rfl (fun t9 ht hW => ⟨⟨0, (), rfl, rfl, trivial⟩, hS.F ht⟩) hS.2.2 dX12_isSpeaker_16

set_option maxHeartbeats 4000000 in
set_option maxRecDepth 100000 in
theorem c_X12_isSlot (l : Launch) (D : va_G) (t : Nat → ClassId) (x : Int32) : Met l yX12_isSlot (wd yX12_isSlot cX12_isSlot 1 (some .boolean)) (RM 1 0 0) (PreP D (TY t) [.int x] []) (QI (ib 0 3 x)) 0 0 NoF := by
  refine Met.ofW (cc := cX12_isSlot) (maxL := 1) (ret := (some .boolean)) (by decide) rfl ?_
  intro p e s m args below meth c s₁ B hml hv
  obtain ⟨rfl, hP, hK, hN⟩ := hv
  have hx := B.exec
  have hb := B.bytes
  have hr := B.returns
  have hts : ∀ w ∈ TB, w.before _ s = true := fun w h => atoms_spec (ws := wd yX12_isSlot cX12_isSlot 1 (some .boolean)) B.pre w (List.mem_cons_of_mem _ h)
  have hown : s.vm.findClass RX12 = some m.cls := findClass_of_methodNamed B.named
  have hlocks := B.notSynchronized
  have hF : CallFix p m c cX12_isSlot 1 s _ TB RX12 := ⟨hx, hb, hml, hown, hts⟩
  have hl := lv_entry ([.int x]) (n := 1) (Nat.le_of_ble_eq_true rfl)
  rw [lg_entry_eq]
  generalize (lg_sl ([.int x]) ++ List.replicate (1 - (lg_sl ([.int x])).length) Slot.unset).toArray = ls at hl ⊢
  have hl : lv_has ls 1 [(0, .int x)] := hl
  have hS : va_S NoF s.heap s.heap [] := va_S.rf
  have hP : va_P D classes [] s.heap := hP
  refine lv_iload_n hx hb dX12_isSlot_0 rfl (lv_at hl 0 rfl) ?_
  refine lv_i2l hx hb dX12_isSlot_1 rfl ?_
  refine lv_lconst (v := 0) hx hb dX12_isSlot_2 rfl ?_
  refine lv_ldc2 (v := 3) hx hb hown (hts _ m_1627) dX12_isSlot_3 ?_
  refine x_pS hF (c_X12_in l D t x.toInt64 0 3) m_1469 m_1470 m_13 m_1471 hd_X12_in ⟨Nat.le_of_ble_eq_true rfl, Nat.le_of_ble_eq_true rfl⟩ hK hN hP hS [] rfl hl.1 rfl (Nat.le_of_ble_eq_true rfl) dX12_isSlot_6 ⟨Nat.zero_le _, Nat.zero_le _⟩ (fun H locs hP hS => ?_)
  refine x_seti (ib 0 3 x) (inV_i x (by decide) (by decide)) ?_
  exact W.zret (v := ib 0 3 x) hx hb hr (x_nb _ _ _) (fun t9 ht hW => ⟨⟨ib 0 3 x, (), rfl, rfl, trivial⟩, hS.F ht⟩) hS.2.2 dX12_isSlot_9

set_option maxHeartbeats 4000000 in
set_option maxRecDepth 100000 in
theorem c_X12_isLaw (l : Launch) (D : va_G) (t : Nat → ClassId) (x : Int32) : Met l yX12_isLaw (wd yX12_isLaw cX12_isLaw 1 (some .boolean)) (RM 1 0 0) (PreP D (TY t) [.int x] []) (QI (ib 0 3 x)) 0 0 NoF := by
  refine Met.ofW (cc := cX12_isLaw) (maxL := 1) (ret := (some .boolean)) (by decide) rfl ?_
  intro p e s m args below meth c s₁ B hml hv
  obtain ⟨rfl, hP, hK, hN⟩ := hv
  have hx := B.exec
  have hb := B.bytes
  have hr := B.returns
  have hts : ∀ w ∈ TB, w.before _ s = true := fun w h => atoms_spec (ws := wd yX12_isLaw cX12_isLaw 1 (some .boolean)) B.pre w (List.mem_cons_of_mem _ h)
  have hown : s.vm.findClass RX12 = some m.cls := findClass_of_methodNamed B.named
  have hlocks := B.notSynchronized
  have hF : CallFix p m c cX12_isLaw 1 s _ TB RX12 := ⟨hx, hb, hml, hown, hts⟩
  have hl := lv_entry ([.int x]) (n := 1) (Nat.le_of_ble_eq_true rfl)
  rw [lg_entry_eq]
  generalize (lg_sl ([.int x]) ++ List.replicate (1 - (lg_sl ([.int x])).length) Slot.unset).toArray = ls at hl ⊢
  have hl : lv_has ls 1 [(0, .int x)] := hl
  have hS : va_S NoF s.heap s.heap [] := va_S.rf
  have hP : va_P D classes [] s.heap := hP
  refine lv_iload_n hx hb dX12_isLaw_0 rfl (lv_at hl 0 rfl) ?_
  refine lv_i2l hx hb dX12_isLaw_1 rfl ?_
  refine lv_lconst (v := 0) hx hb dX12_isLaw_2 rfl ?_
  refine lv_ldc2 (v := 3) hx hb hown (hts _ m_1627) dX12_isLaw_3 ?_
  refine x_pS hF (c_X12_in l D t x.toInt64 0 3) m_1469 m_1470 m_13 m_1471 hd_X12_in ⟨Nat.le_of_ble_eq_true rfl, Nat.le_of_ble_eq_true rfl⟩ hK hN hP hS [] rfl hl.1 rfl (Nat.le_of_ble_eq_true rfl) dX12_isLaw_6 ⟨Nat.zero_le _, Nat.zero_le _⟩ (fun H locs hP hS => ?_)
  refine x_seti (ib 0 3 x) (inV_i x (by decide) (by decide)) ?_
  exact W.zret (v := ib 0 3 x) hx hb hr (x_nb _ _ _) (fun t9 ht hW => ⟨⟨ib 0 3 x, (), rfl, rfl, trivial⟩, hS.F ht⟩) hS.2.2 dX12_isLaw_9

set_option maxHeartbeats 4000000 in
set_option maxRecDepth 100000 in
theorem c_X12_isParty (l : Launch) (D : va_G) (t : Nat → ClassId) (x : Int32) : Met l yX12_isParty (wd yX12_isParty cX12_isParty 1 (some .boolean)) (RM 1 0 0) (PreP D (TY t) [.int x] []) (QI (ib 0 3 x)) 0 0 NoF := by
  refine Met.ofW (cc := cX12_isParty) (maxL := 1) (ret := (some .boolean)) (by decide) rfl ?_
  intro p e s m args below meth c s₁ B hml hv
  obtain ⟨rfl, hP, hK, hN⟩ := hv
  have hx := B.exec
  have hb := B.bytes
  have hr := B.returns
  have hts : ∀ w ∈ TB, w.before _ s = true := fun w h => atoms_spec (ws := wd yX12_isParty cX12_isParty 1 (some .boolean)) B.pre w (List.mem_cons_of_mem _ h)
  have hown : s.vm.findClass RX12 = some m.cls := findClass_of_methodNamed B.named
  have hlocks := B.notSynchronized
  have hF : CallFix p m c cX12_isParty 1 s _ TB RX12 := ⟨hx, hb, hml, hown, hts⟩
  have hl := lv_entry ([.int x]) (n := 1) (Nat.le_of_ble_eq_true rfl)
  rw [lg_entry_eq]
  generalize (lg_sl ([.int x]) ++ List.replicate (1 - (lg_sl ([.int x])).length) Slot.unset).toArray = ls at hl ⊢
  have hl : lv_has ls 1 [(0, .int x)] := hl
  have hS : va_S NoF s.heap s.heap [] := va_S.rf
  have hP : va_P D classes [] s.heap := hP
  refine lv_iload_n hx hb dX12_isParty_0 rfl (lv_at hl 0 rfl) ?_
  refine lv_i2l hx hb dX12_isParty_1 rfl ?_
  refine lv_lconst (v := 0) hx hb dX12_isParty_2 rfl ?_
  refine lv_ldc2 (v := 3) hx hb hown (hts _ m_1627) dX12_isParty_3 ?_
  refine x_pS hF (c_X12_in l D t x.toInt64 0 3) m_1469 m_1470 m_13 m_1471 hd_X12_in ⟨Nat.le_of_ble_eq_true rfl, Nat.le_of_ble_eq_true rfl⟩ hK hN hP hS [] rfl hl.1 rfl (Nat.le_of_ble_eq_true rfl) dX12_isParty_6 ⟨Nat.zero_le _, Nat.zero_le _⟩ (fun H locs hP hS => ?_)
  refine x_seti (ib 0 3 x) (inV_i x (by decide) (by decide)) ?_
  exact W.zret (v := ib 0 3 x) hx hb hr (x_nb _ _ _) (fun t9 ht hW => ⟨⟨ib 0 3 x, (), rfl, rfl, trivial⟩, hS.F ht⟩) hS.2.2 dX12_isParty_9

set_option maxHeartbeats 4000000 in
set_option maxRecDepth 100000 in
theorem c_X12_isSeed (l : Launch) (D : va_G) (t : Nat → ClassId) (x : Int32) : Met l yX12_isSeed (wd yX12_isSeed cX12_isSeed 1 (some .boolean)) (RM 1 0 0) (PreP D (TY t) [.int x] []) (QI (ib 0 2000000000 x)) 0 0 NoF := by
  refine Met.ofW (cc := cX12_isSeed) (maxL := 1) (ret := (some .boolean)) (by decide) rfl ?_
  intro p e s m args below meth c s₁ B hml hv
  obtain ⟨rfl, hP, hK, hN⟩ := hv
  have hx := B.exec
  have hb := B.bytes
  have hr := B.returns
  have hts : ∀ w ∈ TB, w.before _ s = true := fun w h => atoms_spec (ws := wd yX12_isSeed cX12_isSeed 1 (some .boolean)) B.pre w (List.mem_cons_of_mem _ h)
  have hown : s.vm.findClass RX12 = some m.cls := findClass_of_methodNamed B.named
  have hlocks := B.notSynchronized
  have hF : CallFix p m c cX12_isSeed 1 s _ TB RX12 := ⟨hx, hb, hml, hown, hts⟩
  have hl := lv_entry ([.int x]) (n := 1) (Nat.le_of_ble_eq_true rfl)
  rw [lg_entry_eq]
  generalize (lg_sl ([.int x]) ++ List.replicate (1 - (lg_sl ([.int x])).length) Slot.unset).toArray = ls at hl ⊢
  have hl : lv_has ls 1 [(0, .int x)] := hl
  have hS : va_S NoF s.heap s.heap [] := va_S.rf
  have hP : va_P D classes [] s.heap := hP
  refine lv_iload_n hx hb dX12_isSeed_0 rfl (lv_at hl 0 rfl) ?_
  refine lv_i2l hx hb dX12_isSeed_1 rfl ?_
  refine lv_lconst (v := 0) hx hb dX12_isSeed_2 rfl ?_
  refine lv_ldc2 (v := 2000000000) hx hb hown (hts _ m_2045) dX12_isSeed_3 ?_
  refine x_pS hF (c_X12_in l D t x.toInt64 0 2000000000) m_1469 m_1470 m_13 m_1471 hd_X12_in ⟨Nat.le_of_ble_eq_true rfl, Nat.le_of_ble_eq_true rfl⟩ hK hN hP hS [] rfl hl.1 rfl (Nat.le_of_ble_eq_true rfl) dX12_isSeed_6 ⟨Nat.zero_le _, Nat.zero_le _⟩ (fun H locs hP hS => ?_)
  refine x_seti (ib 0 2000000000 x) (inV_i x (by decide) (by decide)) ?_
  exact W.zret (v := ib 0 2000000000 x) hx hb hr (x_nb _ _ _) (fun t9 ht hW => ⟨⟨ib 0 2000000000 x, (), rfl, rfl, trivial⟩, hS.F ht⟩) hS.2.2 dX12_isSeed_9

set_option maxHeartbeats 4000000 in
set_option maxRecDepth 100000 in
theorem c_X12_areMeanings (l : Launch) (D : va_G) (t : Nat → ClassId) (b : Nat → Nat) (x : Int32) : Met l yX12_areMeanings (wd yX12_areMeanings cX12_areMeanings 2 (some .boolean)) (RM 2 0 0) (PreP D (TY t) [.ref (b 0), .int x] [(b 0, .inr (12, [.int 0, .ref (b 1), .ref (b 2), .ref (b 3), .ref (b 4), .int 0, .ref (b 5), .int 0, .int 0, .int 0, .int 0, .int 0, .int 0, .int (-1), .ref (b 6), .int 0, .ref (b 7), .int 0, .int (-1), .int 0, .ref (b 8), .int 0, .ref (b 9), .int 0, .ref (b 10), .ref (b 11), .ref (b 12), .int 0, .int 0, .int 0, .ref (b 13), .ref (b 14), .ref (b 15), .int 0, .int 0, .int 0, .ref (b 16), .ref (b 17), .ref (b 18), .ref (b 19)])), (b 1, .inl (t 0, 841, .inl (fun _ => 0)))]) (QI 0) 0 0 NoF := by
  refine Met.ofW (cc := cX12_areMeanings) (maxL := 2) (ret := (some .boolean)) (by decide) rfl ?_
  intro p e s m args below meth c s₁ B hml hv
  obtain ⟨rfl, hP, hK, hN⟩ := hv
  have hx := B.exec
  have hb := B.bytes
  have hr := B.returns
  have hts : ∀ w ∈ TB, w.before _ s = true := fun w h => atoms_spec (ws := wd yX12_areMeanings cX12_areMeanings 2 (some .boolean)) B.pre w (List.mem_cons_of_mem _ h)
  have hown : s.vm.findClass RX12 = some m.cls := findClass_of_methodNamed B.named
  have hlocks := B.notSynchronized
  have hF : CallFix p m c cX12_areMeanings 2 s _ TB RX12 := ⟨hx, hb, hml, hown, hts⟩
  have hl := lv_entry ([.ref (b 0), .int x]) (n := 2) (Nat.le_of_ble_eq_true rfl)
  rw [lg_entry_eq]
  generalize (lg_sl ([.ref (b 0), .int x]) ++ List.replicate (2 - (lg_sl ([.ref (b 0), .int x])).length) Slot.unset).toArray = ls at hl ⊢
  have hl : lv_has ls 2 [(0, .ref (b 0)), (1, .int x)] := hl
  have hS : va_S NoF s.heap s.heap [] := va_S.rf
  have hP : va_P D classes [(b 0, .inr (12, [.int 0, .ref (b 1), .ref (b 2), .ref (b 3), .ref (b 4), .int 0, .ref (b 5), .int 0, .int 0, .int 0, .int 0, .int 0, .int 0, .int (-1), .ref (b 6), .int 0, .ref (b 7), .int 0, .int (-1), .int 0, .ref (b 8), .int 0, .ref (b 9), .int 0, .ref (b 10), .ref (b 11), .ref (b 12), .int 0, .int 0, .int 0, .ref (b 13), .ref (b 14), .ref (b 15), .int 0, .int 0, .int 0, .ref (b 16), .ref (b 17), .ref (b 18), .ref (b 19)])), (b 1, .inl (t 0, 841, .inl (fun _ => 0)))] s.heap := hP
  refine lv_aload_n hx hb dX12_areMeanings_0 rfl (lv_at hl 0 rfl) ?_
  refine x_pV hF (c_X12_isChamber l D t b) m_1766 m_1768 m_s81 m_13 m_1769 hd_X12_isChamber ⟨Nat.le_of_ble_eq_true rfl, Nat.le_of_ble_eq_true rfl⟩ hK hN hP hS [0, 1] rfl 0 (ci := 12) rfl rfl rfl hl.1 rfl (Nat.le_of_ble_eq_true rfl) dX12_areMeanings_1 ⟨Nat.zero_le _, Nat.zero_le _⟩ (fun H locs hP hS => ?_)
  refine lv_if_eq (tgt := 31) hx hb dX12_areMeanings_4 (by decide) (fun _ => ?_) (fun c9 => absurd (by decide) c9)
  refine lv_iconst (v := 0) hx hb dX12_areMeanings_31 (by decide) ?_
  exact W.zret (v := 0) hx hb hr rfl (fun t9 ht hW => ⟨⟨0, (), rfl, rfl, trivial⟩, hS.F ht⟩) hS.2.2 dX12_areMeanings_32

set_option maxHeartbeats 4000000 in
set_option maxRecDepth 100000 in
theorem c_X12_areParties (l : Launch) (D : va_G) (t : Nat → ClassId) (b : Nat → Nat) (x : Int32) : Met l yX12_areParties (wd yX12_areParties cX12_areParties 2 (some .boolean)) (RM 2 0 0) (PreP D (TY t) [.ref (b 0), .int x] [(b 0, .inr (12, [.int 0, .ref (b 1), .ref (b 2), .ref (b 3), .ref (b 4), .int 0, .ref (b 5), .int 0, .int 0, .int 0, .int 0, .int 0, .int 0, .int (-1), .ref (b 6), .int 0, .ref (b 7), .int 0, .int (-1), .int 0, .ref (b 8), .int 0, .ref (b 9), .int 0, .ref (b 10), .ref (b 11), .ref (b 12), .int 0, .int 0, .int 0, .ref (b 13), .ref (b 14), .ref (b 15), .int 0, .int 0, .int 0, .ref (b 16), .ref (b 17), .ref (b 18), .ref (b 19)])), (b 1, .inl (t 0, 841, .inl (fun _ => 0)))]) (QI 0) 0 0 NoF := by
  refine Met.ofW (cc := cX12_areParties) (maxL := 2) (ret := (some .boolean)) (by decide) rfl ?_
  intro p e s m args below meth c s₁ B hml hv
  obtain ⟨rfl, hP, hK, hN⟩ := hv
  have hx := B.exec
  have hb := B.bytes
  have hr := B.returns
  have hts : ∀ w ∈ TB, w.before _ s = true := fun w h => atoms_spec (ws := wd yX12_areParties cX12_areParties 2 (some .boolean)) B.pre w (List.mem_cons_of_mem _ h)
  have hown : s.vm.findClass RX12 = some m.cls := findClass_of_methodNamed B.named
  have hlocks := B.notSynchronized
  have hF : CallFix p m c cX12_areParties 2 s _ TB RX12 := ⟨hx, hb, hml, hown, hts⟩
  have hl := lv_entry ([.ref (b 0), .int x]) (n := 2) (Nat.le_of_ble_eq_true rfl)
  rw [lg_entry_eq]
  generalize (lg_sl ([.ref (b 0), .int x]) ++ List.replicate (2 - (lg_sl ([.ref (b 0), .int x])).length) Slot.unset).toArray = ls at hl ⊢
  have hl : lv_has ls 2 [(0, .ref (b 0)), (1, .int x)] := hl
  have hS : va_S NoF s.heap s.heap [] := va_S.rf
  have hP : va_P D classes [(b 0, .inr (12, [.int 0, .ref (b 1), .ref (b 2), .ref (b 3), .ref (b 4), .int 0, .ref (b 5), .int 0, .int 0, .int 0, .int 0, .int 0, .int 0, .int (-1), .ref (b 6), .int 0, .ref (b 7), .int 0, .int (-1), .int 0, .ref (b 8), .int 0, .ref (b 9), .int 0, .ref (b 10), .ref (b 11), .ref (b 12), .int 0, .int 0, .int 0, .ref (b 13), .ref (b 14), .ref (b 15), .int 0, .int 0, .int 0, .ref (b 16), .ref (b 17), .ref (b 18), .ref (b 19)])), (b 1, .inl (t 0, 841, .inl (fun _ => 0)))] s.heap := hP
  refine lv_aload_n hx hb dX12_areParties_0 rfl (lv_at hl 0 rfl) ?_
  refine x_pV hF (c_X12_isChamber l D t b) m_1766 m_1768 m_s81 m_13 m_1769 hd_X12_isChamber ⟨Nat.le_of_ble_eq_true rfl, Nat.le_of_ble_eq_true rfl⟩ hK hN hP hS [0, 1] rfl 0 (ci := 12) rfl rfl rfl hl.1 rfl (Nat.le_of_ble_eq_true rfl) dX12_areParties_1 ⟨Nat.zero_le _, Nat.zero_le _⟩ (fun H locs hP hS => ?_)
  refine lv_if_eq (tgt := 23) hx hb dX12_areParties_4 (by decide) (fun _ => ?_) (fun c9 => absurd (by decide) c9)
  refine lv_iconst (v := 0) hx hb dX12_areParties_23 (by decide) ?_
  exact W.zret (v := 0) hx hb hr rfl (fun t9 ht hW => ⟨⟨0, (), rfl, rfl, trivial⟩, hS.F ht⟩) hS.2.2 dX12_areParties_24

set_option maxHeartbeats 4000000 in
set_option maxRecDepth 100000 in
theorem c_X12_asksSpeech (l : Launch) (D : va_G) (t : Nat → ClassId) (b : Nat → Nat) (x : Int32) (y : Int32) : Met l yX12_asksSpeech (wd yX12_asksSpeech cX12_asksSpeech 4 (some .int)) (RM 2 0 0) (PreP D (TY t) [.ref (b 0), .int x, .int y] [(b 0, .inr (12, [.int 0, .ref (b 1), .ref (b 2), .ref (b 3), .ref (b 4), .int 0, .ref (b 5), .int 0, .int 0, .int 0, .int 0, .int 0, .int 0, .int (-1), .ref (b 6), .int 0, .ref (b 7), .int 0, .int (-1), .int 0, .ref (b 8), .int 0, .ref (b 9), .int 0, .ref (b 10), .ref (b 11), .ref (b 12), .int 0, .int 0, .int 0, .ref (b 13), .ref (b 14), .ref (b 15), .int 0, .int 0, .int 0, .ref (b 16), .ref (b 17), .ref (b 18), .ref (b 19)])), (b 1, .inl (t 0, 841, .inl (fun _ => 0)))]) (QI (-2)) 0 0 NoF := by
  refine Met.ofW (cc := cX12_asksSpeech) (maxL := 4) (ret := (some .int)) (by decide) rfl ?_
  intro p e s m args below meth c s₁ B hml hv
  obtain ⟨rfl, hP, hK, hN⟩ := hv
  have hx := B.exec
  have hb := B.bytes
  have hr := B.returns
  have hts : ∀ w ∈ TB, w.before _ s = true := fun w h => atoms_spec (ws := wd yX12_asksSpeech cX12_asksSpeech 4 (some .int)) B.pre w (List.mem_cons_of_mem _ h)
  have hown : s.vm.findClass RX12 = some m.cls := findClass_of_methodNamed B.named
  have hlocks := B.notSynchronized
  have hF : CallFix p m c cX12_asksSpeech 4 s _ TB RX12 := ⟨hx, hb, hml, hown, hts⟩
  have hl := lv_entry ([.ref (b 0), .int x, .int y]) (n := 4) (Nat.le_of_ble_eq_true rfl)
  rw [lg_entry_eq]
  generalize (lg_sl ([.ref (b 0), .int x, .int y]) ++ List.replicate (4 - (lg_sl ([.ref (b 0), .int x, .int y])).length) Slot.unset).toArray = ls at hl ⊢
  have hl : lv_has ls 4 [(0, .ref (b 0)), (1, .int x), (2, .int y)] := hl
  have hS : va_S NoF s.heap s.heap [] := va_S.rf
  have hP : va_P D classes [(b 0, .inr (12, [.int 0, .ref (b 1), .ref (b 2), .ref (b 3), .ref (b 4), .int 0, .ref (b 5), .int 0, .int 0, .int 0, .int 0, .int 0, .int 0, .int (-1), .ref (b 6), .int 0, .ref (b 7), .int 0, .int (-1), .int 0, .ref (b 8), .int 0, .ref (b 9), .int 0, .ref (b 10), .ref (b 11), .ref (b 12), .int 0, .int 0, .int 0, .ref (b 13), .ref (b 14), .ref (b 15), .int 0, .int 0, .int 0, .ref (b 16), .ref (b 17), .ref (b 18), .ref (b 19)])), (b 1, .inl (t 0, 841, .inl (fun _ => 0)))] s.heap := hP
  refine lv_iload_n hx hb dX12_asksSpeech_0 rfl (lv_at hl 1 rfl) ?_
  refine x_pS hF (c_X12_isSlot l D t x) m_2001 m_2002 m_13 m_2003 hd_X12_isSlot ⟨Nat.le_of_ble_eq_true rfl, Nat.le_of_ble_eq_true rfl⟩ hK hN hP hS [] rfl hl.1 rfl (Nat.le_of_ble_eq_true rfl) dX12_asksSpeech_1 ⟨Nat.zero_le _, Nat.zero_le _⟩ (fun H locs hP hS => ?_)
  refine lv_if_eq (tgt := 18) hx hb dX12_asksSpeech_4 (by decide) (fun c_1 => ?_) (fun c_1 => ?_)
  · refine lv_bipush (v := (-2)) hx hb dX12_asksSpeech_18 (by decide) ?_
    exact W.iret (v := (-2)) hx hb hr (fun t9 ht hW => ⟨⟨(-2), (), rfl, rfl, trivial⟩, hS.F ht⟩) hS.2.2 dX12_asksSpeech_20
  · refine lv_aload_n hx hb dX12_asksSpeech_7 rfl (lv_at hl 0 rfl) ?_
    refine x_pV hF (c_X12_isChamber l D t b) m_1766 m_1768 m_s81 m_13 m_1769 hd_X12_isChamber ⟨Nat.le_of_ble_eq_true rfl, Nat.le_of_ble_eq_true rfl⟩ hK hN hP hS [0, 1] rfl 0 (ci := 12) rfl rfl rfl hl.1 rfl (Nat.le_of_ble_eq_true rfl) dX12_asksSpeech_8 ⟨Nat.zero_le _, Nat.zero_le _⟩ (fun H locs hP hS => ?_)
    refine lv_if_eq (tgt := 18) hx hb dX12_asksSpeech_11 (by decide) (fun _ => ?_) (fun c9 => absurd (by decide) c9)
    refine lv_bipush (v := (-2)) hx hb dX12_asksSpeech_18 (by decide) ?_
    exact W.iret (v := (-2)) hx hb hr (fun t9 ht hW => ⟨⟨(-2), (), rfl, rfl, trivial⟩, hS.F ht⟩) hS.2.2 dX12_asksSpeech_20

set_option maxHeartbeats 4000000 in
set_option maxRecDepth 100000 in
theorem c_X12_word (l : Launch) (D : va_G) (t : Nat → ClassId) (b : Nat → Nat) (x : Int32) (y : Int32) : Met l yX12_word (wd yX12_word cX12_word 3 (some .int)) (RM 3 0 0) (PreP D (TY t) [.ref (b 0), .int x, .int y] [(b 0, .inr (12, [.int 0, .ref (b 1), .ref (b 2), .ref (b 3), .ref (b 4), .int 0, .ref (b 5), .int 0, .int 0, .int 0, .int 0, .int 0, .int 0, .int (-1), .ref (b 6), .int 0, .ref (b 7), .int 0, .int (-1), .int 0, .ref (b 8), .int 0, .ref (b 9), .int 0, .ref (b 10), .ref (b 11), .ref (b 12), .int 0, .int 0, .int 0, .ref (b 13), .ref (b 14), .ref (b 15), .int 0, .int 0, .int 0, .ref (b 16), .ref (b 17), .ref (b 18), .ref (b 19)])), (b 1, .inl (t 0, 841, .inl (fun _ => 0)))]) (QI (-2)) 0 0 NoF := by
  refine Met.ofW (cc := cX12_word) (maxL := 3) (ret := (some .int)) (by decide) rfl ?_
  intro p e s m args below meth c s₁ B hml hv
  obtain ⟨rfl, hP, hK, hN⟩ := hv
  have hx := B.exec
  have hb := B.bytes
  have hr := B.returns
  have hts : ∀ w ∈ TB, w.before _ s = true := fun w h => atoms_spec (ws := wd yX12_word cX12_word 3 (some .int)) B.pre w (List.mem_cons_of_mem _ h)
  have hown : s.vm.findClass RX12 = some m.cls := findClass_of_methodNamed B.named
  have hlocks := B.notSynchronized
  have hF : CallFix p m c cX12_word 3 s _ TB RX12 := ⟨hx, hb, hml, hown, hts⟩
  have hl := lv_entry ([.ref (b 0), .int x, .int y]) (n := 3) (Nat.le_of_ble_eq_true rfl)
  rw [lg_entry_eq]
  generalize (lg_sl ([.ref (b 0), .int x, .int y]) ++ List.replicate (3 - (lg_sl ([.ref (b 0), .int x, .int y])).length) Slot.unset).toArray = ls at hl ⊢
  have hl : lv_has ls 3 [(0, .ref (b 0)), (1, .int x), (2, .int y)] := hl
  have hS : va_S NoF s.heap s.heap [] := va_S.rf
  have hP : va_P D classes [(b 0, .inr (12, [.int 0, .ref (b 1), .ref (b 2), .ref (b 3), .ref (b 4), .int 0, .ref (b 5), .int 0, .int 0, .int 0, .int 0, .int 0, .int 0, .int (-1), .ref (b 6), .int 0, .ref (b 7), .int 0, .int (-1), .int 0, .ref (b 8), .int 0, .ref (b 9), .int 0, .ref (b 10), .ref (b 11), .ref (b 12), .int 0, .int 0, .int 0, .ref (b 13), .ref (b 14), .ref (b 15), .int 0, .int 0, .int 0, .ref (b 16), .ref (b 17), .ref (b 18), .ref (b 19)])), (b 1, .inl (t 0, 841, .inl (fun _ => 0)))] s.heap := hP
  refine lv_aload_n hx hb dX12_word_0 rfl (lv_at hl 0 rfl) ?_
  refine lv_iload_n hx hb dX12_word_1 rfl (lv_at hl 1 rfl) ?_
  refine lv_i2l hx hb dX12_word_2 rfl ?_
  refine x_pV hF (c_X12_isWord l D t b x.toInt64) m_1607 m_1609 m_s57 m_13 m_1610 hd_X12_isWord ⟨Nat.le_of_ble_eq_true rfl, Nat.le_of_ble_eq_true rfl⟩ hK hN hP hS [0, 1] rfl 0 (ci := 12) rfl rfl rfl hl.1 rfl (Nat.le_of_ble_eq_true rfl) dX12_word_3 ⟨Nat.zero_le _, Nat.zero_le _⟩ (fun H locs hP hS => ?_)
  refine lv_if_eq (tgt := 21) hx hb dX12_word_6 (by decide) (fun _ => ?_) (fun c9 => absurd (by decide) c9)
  refine lv_bipush (v := (-2)) hx hb dX12_word_21 (by decide) ?_
  exact W.iret (v := (-2)) hx hb hr (fun t9 ht hW => ⟨⟨(-2), (), rfl, rfl, trivial⟩, hS.F ht⟩) hS.2.2 dX12_word_23

set_option maxHeartbeats 4000000 in
set_option maxRecDepth 100000 in
theorem c_X12_speaker (l : Launch) (D : va_G) (t : Nat → ClassId) (b : Nat → Nat) (x : Int32) (y : Int32) : Met l yX12_speaker (wd yX12_speaker cX12_speaker 3 (some .int)) (RM 3 0 0) (PreP D (TY t) [.ref (b 0), .int x, .int y] [(b 0, .inr (12, [.int 0, .ref (b 1), .ref (b 2), .ref (b 3), .ref (b 4), .int 0, .ref (b 5), .int 0, .int 0, .int 0, .int 0, .int 0, .int 0, .int (-1), .ref (b 6), .int 0, .ref (b 7), .int 0, .int (-1), .int 0, .ref (b 8), .int 0, .ref (b 9), .int 0, .ref (b 10), .ref (b 11), .ref (b 12), .int 0, .int 0, .int 0, .ref (b 13), .ref (b 14), .ref (b 15), .int 0, .int 0, .int 0, .ref (b 16), .ref (b 17), .ref (b 18), .ref (b 19)])), (b 1, .inl (t 0, 841, .inl (fun _ => 0)))]) (QI (-2)) 0 0 NoF := by
  refine Met.ofW (cc := cX12_speaker) (maxL := 3) (ret := (some .int)) (by decide) rfl ?_
  intro p e s m args below meth c s₁ B hml hv
  obtain ⟨rfl, hP, hK, hN⟩ := hv
  have hx := B.exec
  have hb := B.bytes
  have hr := B.returns
  have hts : ∀ w ∈ TB, w.before _ s = true := fun w h => atoms_spec (ws := wd yX12_speaker cX12_speaker 3 (some .int)) B.pre w (List.mem_cons_of_mem _ h)
  have hown : s.vm.findClass RX12 = some m.cls := findClass_of_methodNamed B.named
  have hlocks := B.notSynchronized
  have hF : CallFix p m c cX12_speaker 3 s _ TB RX12 := ⟨hx, hb, hml, hown, hts⟩
  have hl := lv_entry ([.ref (b 0), .int x, .int y]) (n := 3) (Nat.le_of_ble_eq_true rfl)
  rw [lg_entry_eq]
  generalize (lg_sl ([.ref (b 0), .int x, .int y]) ++ List.replicate (3 - (lg_sl ([.ref (b 0), .int x, .int y])).length) Slot.unset).toArray = ls at hl ⊢
  have hl : lv_has ls 3 [(0, .ref (b 0)), (1, .int x), (2, .int y)] := hl
  have hS : va_S NoF s.heap s.heap [] := va_S.rf
  have hP : va_P D classes [(b 0, .inr (12, [.int 0, .ref (b 1), .ref (b 2), .ref (b 3), .ref (b 4), .int 0, .ref (b 5), .int 0, .int 0, .int 0, .int 0, .int 0, .int 0, .int (-1), .ref (b 6), .int 0, .ref (b 7), .int 0, .int (-1), .int 0, .ref (b 8), .int 0, .ref (b 9), .int 0, .ref (b 10), .ref (b 11), .ref (b 12), .int 0, .int 0, .int 0, .ref (b 13), .ref (b 14), .ref (b 15), .int 0, .int 0, .int 0, .ref (b 16), .ref (b 17), .ref (b 18), .ref (b 19)])), (b 1, .inl (t 0, 841, .inl (fun _ => 0)))] s.heap := hP
  refine lv_aload_n hx hb dX12_speaker_0 rfl (lv_at hl 0 rfl) ?_
  refine lv_iload_n hx hb dX12_speaker_1 rfl (lv_at hl 1 rfl) ?_
  refine x_pV hF (c_X12_isSpeaker l D t b x) m_1623 m_1625 m_s59 m_13 m_1626 hd_X12_isSpeaker ⟨Nat.le_of_ble_eq_true rfl, Nat.le_of_ble_eq_true rfl⟩ hK hN hP hS [0, 1] rfl 0 (ci := 12) rfl rfl rfl hl.1 rfl (Nat.le_of_ble_eq_true rfl) dX12_speaker_2 ⟨Nat.zero_le _, Nat.zero_le _⟩ (fun H locs hP hS => ?_)
  refine lv_if_eq (tgt := 29) hx hb dX12_speaker_5 (by decide) (fun _ => ?_) (fun c9 => absurd (by decide) c9)
  refine lv_bipush (v := (-2)) hx hb dX12_speaker_29 (by decide) ?_
  exact W.iret (v := (-2)) hx hb hr (fun t9 ht hW => ⟨⟨(-2), (), rfl, rfl, trivial⟩, hS.F ht⟩) hS.2.2 dX12_speaker_31

set_option maxHeartbeats 4000000 in
set_option maxRecDepth 100000 in
theorem c_X12_district (l : Launch) (D : va_G) (t : Nat → ClassId) (b : Nat → Nat) (x : Int32) (y : Int32) : Met l yX12_district (wd yX12_district cX12_district 3 (some .int)) (RM 3 0 0) (PreP D (TY t) [.ref (b 0), .int x, .int y] [(b 0, .inr (12, [.int 0, .ref (b 1), .ref (b 2), .ref (b 3), .ref (b 4), .int 0, .ref (b 5), .int 0, .int 0, .int 0, .int 0, .int 0, .int 0, .int (-1), .ref (b 6), .int 0, .ref (b 7), .int 0, .int (-1), .int 0, .ref (b 8), .int 0, .ref (b 9), .int 0, .ref (b 10), .ref (b 11), .ref (b 12), .int 0, .int 0, .int 0, .ref (b 13), .ref (b 14), .ref (b 15), .int 0, .int 0, .int 0, .ref (b 16), .ref (b 17), .ref (b 18), .ref (b 19)])), (b 1, .inl (t 0, 841, .inl (fun _ => 0)))]) (QI (-2)) 0 0 NoF := by
  refine Met.ofW (cc := cX12_district) (maxL := 3) (ret := (some .int)) (by decide) rfl ?_
  intro p e s m args below meth c s₁ B hml hv
  obtain ⟨rfl, hP, hK, hN⟩ := hv
  have hx := B.exec
  have hb := B.bytes
  have hr := B.returns
  have hts : ∀ w ∈ TB, w.before _ s = true := fun w h => atoms_spec (ws := wd yX12_district cX12_district 3 (some .int)) B.pre w (List.mem_cons_of_mem _ h)
  have hown : s.vm.findClass RX12 = some m.cls := findClass_of_methodNamed B.named
  have hlocks := B.notSynchronized
  have hF : CallFix p m c cX12_district 3 s _ TB RX12 := ⟨hx, hb, hml, hown, hts⟩
  have hl := lv_entry ([.ref (b 0), .int x, .int y]) (n := 3) (Nat.le_of_ble_eq_true rfl)
  rw [lg_entry_eq]
  generalize (lg_sl ([.ref (b 0), .int x, .int y]) ++ List.replicate (3 - (lg_sl ([.ref (b 0), .int x, .int y])).length) Slot.unset).toArray = ls at hl ⊢
  have hl : lv_has ls 3 [(0, .ref (b 0)), (1, .int x), (2, .int y)] := hl
  have hS : va_S NoF s.heap s.heap [] := va_S.rf
  have hP : va_P D classes [(b 0, .inr (12, [.int 0, .ref (b 1), .ref (b 2), .ref (b 3), .ref (b 4), .int 0, .ref (b 5), .int 0, .int 0, .int 0, .int 0, .int 0, .int 0, .int (-1), .ref (b 6), .int 0, .ref (b 7), .int 0, .int (-1), .int 0, .ref (b 8), .int 0, .ref (b 9), .int 0, .ref (b 10), .ref (b 11), .ref (b 12), .int 0, .int 0, .int 0, .ref (b 13), .ref (b 14), .ref (b 15), .int 0, .int 0, .int 0, .ref (b 16), .ref (b 17), .ref (b 18), .ref (b 19)])), (b 1, .inl (t 0, 841, .inl (fun _ => 0)))] s.heap := hP
  refine lv_aload_n hx hb dX12_district_0 rfl (lv_at hl 0 rfl) ?_
  refine lv_iload_n hx hb dX12_district_1 rfl (lv_at hl 1 rfl) ?_
  refine x_pV hF (c_X12_isDistrict l D t b x) m_1636 m_1638 m_s61 m_13 m_1639 hd_X12_isDistrict ⟨Nat.le_of_ble_eq_true rfl, Nat.le_of_ble_eq_true rfl⟩ hK hN hP hS [0, 1] rfl 0 (ci := 12) rfl rfl rfl hl.1 rfl (Nat.le_of_ble_eq_true rfl) dX12_district_2 ⟨Nat.zero_le _, Nat.zero_le _⟩ (fun H locs hP hS => ?_)
  refine lv_if_eq (tgt := 20) hx hb dX12_district_5 (by decide) (fun _ => ?_) (fun c9 => absurd (by decide) c9)
  refine lv_bipush (v := (-2)) hx hb dX12_district_20 (by decide) ?_
  exact W.iret (v := (-2)) hx hb hr (fun t9 ht hW => ⟨⟨(-2), (), rfl, rfl, trivial⟩, hS.F ht⟩) hS.2.2 dX12_district_22

set_option maxHeartbeats 4000000 in
set_option maxRecDepth 100000 in
theorem c_X12_likes (l : Launch) (D : va_G) (t : Nat → ClassId) (b : Nat → Nat) (x : Int32) (y : Int32) : Met l yX12_likes (wd yX12_likes cX12_likes 3 (some .int)) (RM 3 0 0) (PreP D (TY t) [.ref (b 0), .int x, .int y] [(b 0, .inr (12, [.int 0, .ref (b 1), .ref (b 2), .ref (b 3), .ref (b 4), .int 0, .ref (b 5), .int 0, .int 0, .int 0, .int 0, .int 0, .int 0, .int (-1), .ref (b 6), .int 0, .ref (b 7), .int 0, .int (-1), .int 0, .ref (b 8), .int 0, .ref (b 9), .int 0, .ref (b 10), .ref (b 11), .ref (b 12), .int 0, .int 0, .int 0, .ref (b 13), .ref (b 14), .ref (b 15), .int 0, .int 0, .int 0, .ref (b 16), .ref (b 17), .ref (b 18), .ref (b 19)])), (b 1, .inl (t 0, 841, .inl (fun _ => 0)))]) (QI (-2)) 0 0 NoF := by
  refine Met.ofW (cc := cX12_likes) (maxL := 3) (ret := (some .int)) (by decide) rfl ?_
  intro p e s m args below meth c s₁ B hml hv
  obtain ⟨rfl, hP, hK, hN⟩ := hv
  have hx := B.exec
  have hb := B.bytes
  have hr := B.returns
  have hts : ∀ w ∈ TB, w.before _ s = true := fun w h => atoms_spec (ws := wd yX12_likes cX12_likes 3 (some .int)) B.pre w (List.mem_cons_of_mem _ h)
  have hown : s.vm.findClass RX12 = some m.cls := findClass_of_methodNamed B.named
  have hlocks := B.notSynchronized
  have hF : CallFix p m c cX12_likes 3 s _ TB RX12 := ⟨hx, hb, hml, hown, hts⟩
  have hl := lv_entry ([.ref (b 0), .int x, .int y]) (n := 3) (Nat.le_of_ble_eq_true rfl)
  rw [lg_entry_eq]
  generalize (lg_sl ([.ref (b 0), .int x, .int y]) ++ List.replicate (3 - (lg_sl ([.ref (b 0), .int x, .int y])).length) Slot.unset).toArray = ls at hl ⊢
  have hl : lv_has ls 3 [(0, .ref (b 0)), (1, .int x), (2, .int y)] := hl
  have hS : va_S NoF s.heap s.heap [] := va_S.rf
  have hP : va_P D classes [(b 0, .inr (12, [.int 0, .ref (b 1), .ref (b 2), .ref (b 3), .ref (b 4), .int 0, .ref (b 5), .int 0, .int 0, .int 0, .int 0, .int 0, .int 0, .int (-1), .ref (b 6), .int 0, .ref (b 7), .int 0, .int (-1), .int 0, .ref (b 8), .int 0, .ref (b 9), .int 0, .ref (b 10), .ref (b 11), .ref (b 12), .int 0, .int 0, .int 0, .ref (b 13), .ref (b 14), .ref (b 15), .int 0, .int 0, .int 0, .ref (b 16), .ref (b 17), .ref (b 18), .ref (b 19)])), (b 1, .inl (t 0, 841, .inl (fun _ => 0)))] s.heap := hP
  refine lv_aload_n hx hb dX12_likes_0 rfl (lv_at hl 0 rfl) ?_
  refine lv_iload_n hx hb dX12_likes_1 rfl (lv_at hl 1 rfl) ?_
  refine x_pV hF (c_X12_isSpeaker l D t b x) m_1623 m_1625 m_s59 m_13 m_1626 hd_X12_isSpeaker ⟨Nat.le_of_ble_eq_true rfl, Nat.le_of_ble_eq_true rfl⟩ hK hN hP hS [0, 1] rfl 0 (ci := 12) rfl rfl rfl hl.1 rfl (Nat.le_of_ble_eq_true rfl) dX12_likes_2 ⟨Nat.zero_le _, Nat.zero_le _⟩ (fun H locs hP hS => ?_)
  refine lv_if_eq (tgt := 26) hx hb dX12_likes_5 (by decide) (fun _ => ?_) (fun c9 => absurd (by decide) c9)
  refine lv_bipush (v := (-2)) hx hb dX12_likes_26 (by decide) ?_
  exact W.iret (v := (-2)) hx hb hr (fun t9 ht hW => ⟨⟨(-2), (), rfl, rfl, trivial⟩, hS.F ht⟩) hS.2.2 dX12_likes_28

set_option maxHeartbeats 4000000 in
set_option maxRecDepth 100000 in
theorem c_X12_order (l : Launch) (D : va_G) (t : Nat → ClassId) (b : Nat → Nat) (x : Int32) (y : Int32) : Met l yX12_order (wd yX12_order cX12_order 6 (some .int)) (RM 3 0 0) (PreP D (TY t) [.ref (b 0), .int x, .int y] [(b 0, .inr (12, [.int 0, .ref (b 1), .ref (b 2), .ref (b 3), .ref (b 4), .int 0, .ref (b 5), .int 0, .int 0, .int 0, .int 0, .int 0, .int 0, .int (-1), .ref (b 6), .int 0, .ref (b 7), .int 0, .int (-1), .int 0, .ref (b 8), .int 0, .ref (b 9), .int 0, .ref (b 10), .ref (b 11), .ref (b 12), .int 0, .int 0, .int 0, .ref (b 13), .ref (b 14), .ref (b 15), .int 0, .int 0, .int 0, .ref (b 16), .ref (b 17), .ref (b 18), .ref (b 19)])), (b 1, .inl (t 0, 841, .inl (fun _ => 0)))]) (QI (-2)) 0 0 NoF := by
  refine Met.ofW (cc := cX12_order) (maxL := 6) (ret := (some .int)) (by decide) rfl ?_
  intro p e s m args below meth c s₁ B hml hv
  obtain ⟨rfl, hP, hK, hN⟩ := hv
  have hx := B.exec
  have hb := B.bytes
  have hr := B.returns
  have hts : ∀ w ∈ TB, w.before _ s = true := fun w h => atoms_spec (ws := wd yX12_order cX12_order 6 (some .int)) B.pre w (List.mem_cons_of_mem _ h)
  have hown : s.vm.findClass RX12 = some m.cls := findClass_of_methodNamed B.named
  have hlocks := B.notSynchronized
  have hF : CallFix p m c cX12_order 6 s _ TB RX12 := ⟨hx, hb, hml, hown, hts⟩
  have hl := lv_entry ([.ref (b 0), .int x, .int y]) (n := 6) (Nat.le_of_ble_eq_true rfl)
  rw [lg_entry_eq]
  generalize (lg_sl ([.ref (b 0), .int x, .int y]) ++ List.replicate (6 - (lg_sl ([.ref (b 0), .int x, .int y])).length) Slot.unset).toArray = ls at hl ⊢
  have hl : lv_has ls 6 [(0, .ref (b 0)), (1, .int x), (2, .int y)] := hl
  have hS : va_S NoF s.heap s.heap [] := va_S.rf
  have hP : va_P D classes [(b 0, .inr (12, [.int 0, .ref (b 1), .ref (b 2), .ref (b 3), .ref (b 4), .int 0, .ref (b 5), .int 0, .int 0, .int 0, .int 0, .int 0, .int 0, .int (-1), .ref (b 6), .int 0, .ref (b 7), .int 0, .int (-1), .int 0, .ref (b 8), .int 0, .ref (b 9), .int 0, .ref (b 10), .ref (b 11), .ref (b 12), .int 0, .int 0, .int 0, .ref (b 13), .ref (b 14), .ref (b 15), .int 0, .int 0, .int 0, .ref (b 16), .ref (b 17), .ref (b 18), .ref (b 19)])), (b 1, .inl (t 0, 841, .inl (fun _ => 0)))] s.heap := hP
  refine lv_aload_n hx hb dX12_order_0 rfl (lv_at hl 0 rfl) ?_
  refine lv_iload_n hx hb dX12_order_1 rfl (lv_at hl 1 rfl) ?_
  refine x_pV hF (c_X12_isSpeaker l D t b x) m_1623 m_1625 m_s59 m_13 m_1626 hd_X12_isSpeaker ⟨Nat.le_of_ble_eq_true rfl, Nat.le_of_ble_eq_true rfl⟩ hK hN hP hS [0, 1] rfl 0 (ci := 12) rfl rfl rfl hl.1 rfl (Nat.le_of_ble_eq_true rfl) dX12_order_2 ⟨Nat.zero_le _, Nat.zero_le _⟩ (fun H locs hP hS => ?_)
  refine lv_if_ne (tgt := 11) hx hb dX12_order_5 (by decide) (fun c9 => absurd c9 (by decide)) (fun _ => ?_)
  refine lv_bipush (v := (-2)) hx hb dX12_order_8 (by decide) ?_
  exact W.iret (v := (-2)) hx hb hr (fun t9 ht hW => ⟨⟨(-2), (), rfl, rfl, trivial⟩, hS.F ht⟩) hS.2.2 dX12_order_10

set_option maxHeartbeats 4000000 in
set_option maxRecDepth 100000 in
theorem c_X12_votes (l : Launch) (D : va_G) (t : Nat → ClassId) (b : Nat → Nat) (x : Int32) : Met l yX12_votes (wd yX12_votes cX12_votes 2 (some .int)) (RM 3 0 0) (PreP D (TY t) [.ref (b 0), .int x] [(b 0, .inr (12, [.int 0, .ref (b 1), .ref (b 2), .ref (b 3), .ref (b 4), .int 0, .ref (b 5), .int 0, .int 0, .int 0, .int 0, .int 0, .int 0, .int (-1), .ref (b 6), .int 0, .ref (b 7), .int 0, .int (-1), .int 0, .ref (b 8), .int 0, .ref (b 9), .int 0, .ref (b 10), .ref (b 11), .ref (b 12), .int 0, .int 0, .int 0, .ref (b 13), .ref (b 14), .ref (b 15), .int 0, .int 0, .int 0, .ref (b 16), .ref (b 17), .ref (b 18), .ref (b 19)])), (b 1, .inl (t 0, 841, .inl (fun _ => 0)))]) (QI (-2)) 0 0 NoF := by
  refine Met.ofW (cc := cX12_votes) (maxL := 2) (ret := (some .int)) (by decide) rfl ?_
  intro p e s m args below meth c s₁ B hml hv
  obtain ⟨rfl, hP, hK, hN⟩ := hv
  have hx := B.exec
  have hb := B.bytes
  have hr := B.returns
  have hts : ∀ w ∈ TB, w.before _ s = true := fun w h => atoms_spec (ws := wd yX12_votes cX12_votes 2 (some .int)) B.pre w (List.mem_cons_of_mem _ h)
  have hown : s.vm.findClass RX12 = some m.cls := findClass_of_methodNamed B.named
  have hlocks := B.notSynchronized
  have hF : CallFix p m c cX12_votes 2 s _ TB RX12 := ⟨hx, hb, hml, hown, hts⟩
  have hl := lv_entry ([.ref (b 0), .int x]) (n := 2) (Nat.le_of_ble_eq_true rfl)
  rw [lg_entry_eq]
  generalize (lg_sl ([.ref (b 0), .int x]) ++ List.replicate (2 - (lg_sl ([.ref (b 0), .int x])).length) Slot.unset).toArray = ls at hl ⊢
  have hl : lv_has ls 2 [(0, .ref (b 0)), (1, .int x)] := hl
  have hS : va_S NoF s.heap s.heap [] := va_S.rf
  have hP : va_P D classes [(b 0, .inr (12, [.int 0, .ref (b 1), .ref (b 2), .ref (b 3), .ref (b 4), .int 0, .ref (b 5), .int 0, .int 0, .int 0, .int 0, .int 0, .int 0, .int (-1), .ref (b 6), .int 0, .ref (b 7), .int 0, .int (-1), .int 0, .ref (b 8), .int 0, .ref (b 9), .int 0, .ref (b 10), .ref (b 11), .ref (b 12), .int 0, .int 0, .int 0, .ref (b 13), .ref (b 14), .ref (b 15), .int 0, .int 0, .int 0, .ref (b 16), .ref (b 17), .ref (b 18), .ref (b 19)])), (b 1, .inl (t 0, 841, .inl (fun _ => 0)))] s.heap := hP
  refine lv_aload_n hx hb dX12_votes_0 rfl (lv_at hl 0 rfl) ?_
  refine lv_iload_n hx hb dX12_votes_1 rfl (lv_at hl 1 rfl) ?_
  refine lv_i2l hx hb dX12_votes_2 rfl ?_
  refine x_pV hF (c_X12_isWord l D t b x.toInt64) m_1607 m_1609 m_s57 m_13 m_1610 hd_X12_isWord ⟨Nat.le_of_ble_eq_true rfl, Nat.le_of_ble_eq_true rfl⟩ hK hN hP hS [0, 1] rfl 0 (ci := 12) rfl rfl rfl hl.1 rfl (Nat.le_of_ble_eq_true rfl) dX12_votes_3 ⟨Nat.zero_le _, Nat.zero_le _⟩ (fun H locs hP hS => ?_)
  refine lv_if_ne (tgt := 12) hx hb dX12_votes_6 (by decide) (fun c9 => absurd c9 (by decide)) (fun _ => ?_)
  refine lv_bipush (v := (-2)) hx hb dX12_votes_9 (by decide) ?_
  exact W.iret (v := (-2)) hx hb hr (fun t9 ht hW => ⟨⟨(-2), (), rfl, rfl, trivial⟩, hS.F ht⟩) hS.2.2 dX12_votes_11

set_option maxHeartbeats 4000000 in
set_option maxRecDepth 100000 in
theorem c_X12_abstains (l : Launch) (D : va_G) (t : Nat → ClassId) (b : Nat → Nat) (x : Int32) : Met l yX12_abstains (wd yX12_abstains cX12_abstains 2 (some .int)) (RM 3 0 0) (PreP D (TY t) [.ref (b 0), .int x] [(b 0, .inr (12, [.int 0, .ref (b 1), .ref (b 2), .ref (b 3), .ref (b 4), .int 0, .ref (b 5), .int 0, .int 0, .int 0, .int 0, .int 0, .int 0, .int (-1), .ref (b 6), .int 0, .ref (b 7), .int 0, .int (-1), .int 0, .ref (b 8), .int 0, .ref (b 9), .int 0, .ref (b 10), .ref (b 11), .ref (b 12), .int 0, .int 0, .int 0, .ref (b 13), .ref (b 14), .ref (b 15), .int 0, .int 0, .int 0, .ref (b 16), .ref (b 17), .ref (b 18), .ref (b 19)])), (b 1, .inl (t 0, 841, .inl (fun _ => 0)))]) (QI (-2)) 0 0 NoF := by
  refine Met.ofW (cc := cX12_abstains) (maxL := 2) (ret := (some .int)) (by decide) rfl ?_
  intro p e s m args below meth c s₁ B hml hv
  obtain ⟨rfl, hP, hK, hN⟩ := hv
  have hx := B.exec
  have hb := B.bytes
  have hr := B.returns
  have hts : ∀ w ∈ TB, w.before _ s = true := fun w h => atoms_spec (ws := wd yX12_abstains cX12_abstains 2 (some .int)) B.pre w (List.mem_cons_of_mem _ h)
  have hown : s.vm.findClass RX12 = some m.cls := findClass_of_methodNamed B.named
  have hlocks := B.notSynchronized
  have hF : CallFix p m c cX12_abstains 2 s _ TB RX12 := ⟨hx, hb, hml, hown, hts⟩
  have hl := lv_entry ([.ref (b 0), .int x]) (n := 2) (Nat.le_of_ble_eq_true rfl)
  rw [lg_entry_eq]
  generalize (lg_sl ([.ref (b 0), .int x]) ++ List.replicate (2 - (lg_sl ([.ref (b 0), .int x])).length) Slot.unset).toArray = ls at hl ⊢
  have hl : lv_has ls 2 [(0, .ref (b 0)), (1, .int x)] := hl
  have hS : va_S NoF s.heap s.heap [] := va_S.rf
  have hP : va_P D classes [(b 0, .inr (12, [.int 0, .ref (b 1), .ref (b 2), .ref (b 3), .ref (b 4), .int 0, .ref (b 5), .int 0, .int 0, .int 0, .int 0, .int 0, .int 0, .int (-1), .ref (b 6), .int 0, .ref (b 7), .int 0, .int (-1), .int 0, .ref (b 8), .int 0, .ref (b 9), .int 0, .ref (b 10), .ref (b 11), .ref (b 12), .int 0, .int 0, .int 0, .ref (b 13), .ref (b 14), .ref (b 15), .int 0, .int 0, .int 0, .ref (b 16), .ref (b 17), .ref (b 18), .ref (b 19)])), (b 1, .inl (t 0, 841, .inl (fun _ => 0)))] s.heap := hP
  refine lv_aload_n hx hb dX12_abstains_0 rfl (lv_at hl 0 rfl) ?_
  refine lv_iload_n hx hb dX12_abstains_1 rfl (lv_at hl 1 rfl) ?_
  refine x_pV hF (c_X12_isDistrict l D t b x) m_1636 m_1638 m_s61 m_13 m_1639 hd_X12_isDistrict ⟨Nat.le_of_ble_eq_true rfl, Nat.le_of_ble_eq_true rfl⟩ hK hN hP hS [0, 1] rfl 0 (ci := 12) rfl rfl rfl hl.1 rfl (Nat.le_of_ble_eq_true rfl) dX12_abstains_2 ⟨Nat.zero_le _, Nat.zero_le _⟩ (fun H locs hP hS => ?_)
  refine lv_if_ne (tgt := 11) hx hb dX12_abstains_5 (by decide) (fun c9 => absurd c9 (by decide)) (fun _ => ?_)
  refine lv_bipush (v := (-2)) hx hb dX12_abstains_8 (by decide) ?_
  exact W.iret (v := (-2)) hx hb hr (fun t9 ht hW => ⟨⟨(-2), (), rfl, rfl, trivial⟩, hS.F ht⟩) hS.2.2 dX12_abstains_10

set_option maxHeartbeats 4000000 in
set_option maxRecDepth 100000 in
theorem c_X12_wins (l : Launch) (D : va_G) (t : Nat → ClassId) (b : Nat → Nat) (x : Int32) (y : Int32) : Met l yX12_wins (wd yX12_wins cX12_wins 3 (some .int)) (RM 3 0 0) (PreP D (TY t) [.ref (b 0), .int x, .int y] [(b 0, .inr (12, [.int 0, .ref (b 1), .ref (b 2), .ref (b 3), .ref (b 4), .int 0, .ref (b 5), .int 0, .int 0, .int 0, .int 0, .int 0, .int 0, .int (-1), .ref (b 6), .int 0, .ref (b 7), .int 0, .int (-1), .int 0, .ref (b 8), .int 0, .ref (b 9), .int 0, .ref (b 10), .ref (b 11), .ref (b 12), .int 0, .int 0, .int 0, .ref (b 13), .ref (b 14), .ref (b 15), .int 0, .int 0, .int 0, .ref (b 16), .ref (b 17), .ref (b 18), .ref (b 19)])), (b 1, .inl (t 0, 841, .inl (fun _ => 0)))]) (QI (-2)) 0 0 NoF := by
  refine Met.ofW (cc := cX12_wins) (maxL := 3) (ret := (some .int)) (by decide) rfl ?_
  intro p e s m args below meth c s₁ B hml hv
  obtain ⟨rfl, hP, hK, hN⟩ := hv
  have hx := B.exec
  have hb := B.bytes
  have hr := B.returns
  have hts : ∀ w ∈ TB, w.before _ s = true := fun w h => atoms_spec (ws := wd yX12_wins cX12_wins 3 (some .int)) B.pre w (List.mem_cons_of_mem _ h)
  have hown : s.vm.findClass RX12 = some m.cls := findClass_of_methodNamed B.named
  have hlocks := B.notSynchronized
  have hF : CallFix p m c cX12_wins 3 s _ TB RX12 := ⟨hx, hb, hml, hown, hts⟩
  have hl := lv_entry ([.ref (b 0), .int x, .int y]) (n := 3) (Nat.le_of_ble_eq_true rfl)
  rw [lg_entry_eq]
  generalize (lg_sl ([.ref (b 0), .int x, .int y]) ++ List.replicate (3 - (lg_sl ([.ref (b 0), .int x, .int y])).length) Slot.unset).toArray = ls at hl ⊢
  have hl : lv_has ls 3 [(0, .ref (b 0)), (1, .int x), (2, .int y)] := hl
  have hS : va_S NoF s.heap s.heap [] := va_S.rf
  have hP : va_P D classes [(b 0, .inr (12, [.int 0, .ref (b 1), .ref (b 2), .ref (b 3), .ref (b 4), .int 0, .ref (b 5), .int 0, .int 0, .int 0, .int 0, .int 0, .int 0, .int (-1), .ref (b 6), .int 0, .ref (b 7), .int 0, .int (-1), .int 0, .ref (b 8), .int 0, .ref (b 9), .int 0, .ref (b 10), .ref (b 11), .ref (b 12), .int 0, .int 0, .int 0, .ref (b 13), .ref (b 14), .ref (b 15), .int 0, .int 0, .int 0, .ref (b 16), .ref (b 17), .ref (b 18), .ref (b 19)])), (b 1, .inl (t 0, 841, .inl (fun _ => 0)))] s.heap := hP
  refine lv_aload_n hx hb dX12_wins_0 rfl (lv_at hl 0 rfl) ?_
  refine lv_iload_n hx hb dX12_wins_1 rfl (lv_at hl 1 rfl) ?_
  refine x_pV hF (c_X12_isDistrict l D t b x) m_1636 m_1638 m_s61 m_13 m_1639 hd_X12_isDistrict ⟨Nat.le_of_ble_eq_true rfl, Nat.le_of_ble_eq_true rfl⟩ hK hN hP hS [0, 1] rfl 0 (ci := 12) rfl rfl rfl hl.1 rfl (Nat.le_of_ble_eq_true rfl) dX12_wins_2 ⟨Nat.zero_le _, Nat.zero_le _⟩ (fun H locs hP hS => ?_)
  refine lv_if_eq (tgt := 15) hx hb dX12_wins_5 (by decide) (fun _ => ?_) (fun c9 => absurd (by decide) c9)
  refine lv_bipush (v := (-2)) hx hb dX12_wins_15 (by decide) ?_
  exact W.iret (v := (-2)) hx hb hr (fun t9 ht hW => ⟨⟨(-2), (), rfl, rfl, trivial⟩, hS.F ht⟩) hS.2.2 dX12_wins_17

set_option maxHeartbeats 4000000 in
set_option maxRecDepth 100000 in
theorem c_X12_sits (l : Launch) (D : va_G) (t : Nat → ClassId) (b : Nat → Nat) (x : Int32) (y : Int32) : Met l yX12_sits (wd yX12_sits cX12_sits 3 (some .int)) (RM 3 0 0) (PreP D (TY t) [.ref (b 0), .int x, .int y] [(b 0, .inr (12, [.int 0, .ref (b 1), .ref (b 2), .ref (b 3), .ref (b 4), .int 0, .ref (b 5), .int 0, .int 0, .int 0, .int 0, .int 0, .int 0, .int (-1), .ref (b 6), .int 0, .ref (b 7), .int 0, .int (-1), .int 0, .ref (b 8), .int 0, .ref (b 9), .int 0, .ref (b 10), .ref (b 11), .ref (b 12), .int 0, .int 0, .int 0, .ref (b 13), .ref (b 14), .ref (b 15), .int 0, .int 0, .int 0, .ref (b 16), .ref (b 17), .ref (b 18), .ref (b 19)])), (b 1, .inl (t 0, 841, .inl (fun _ => 0)))]) (QI (-2)) 0 0 NoF := by
  refine Met.ofW (cc := cX12_sits) (maxL := 3) (ret := (some .int)) (by decide) rfl ?_
  intro p e s m args below meth c s₁ B hml hv
  obtain ⟨rfl, hP, hK, hN⟩ := hv
  have hx := B.exec
  have hb := B.bytes
  have hr := B.returns
  have hts : ∀ w ∈ TB, w.before _ s = true := fun w h => atoms_spec (ws := wd yX12_sits cX12_sits 3 (some .int)) B.pre w (List.mem_cons_of_mem _ h)
  have hown : s.vm.findClass RX12 = some m.cls := findClass_of_methodNamed B.named
  have hlocks := B.notSynchronized
  have hF : CallFix p m c cX12_sits 3 s _ TB RX12 := ⟨hx, hb, hml, hown, hts⟩
  have hl := lv_entry ([.ref (b 0), .int x, .int y]) (n := 3) (Nat.le_of_ble_eq_true rfl)
  rw [lg_entry_eq]
  generalize (lg_sl ([.ref (b 0), .int x, .int y]) ++ List.replicate (3 - (lg_sl ([.ref (b 0), .int x, .int y])).length) Slot.unset).toArray = ls at hl ⊢
  have hl : lv_has ls 3 [(0, .ref (b 0)), (1, .int x), (2, .int y)] := hl
  have hS : va_S NoF s.heap s.heap [] := va_S.rf
  have hP : va_P D classes [(b 0, .inr (12, [.int 0, .ref (b 1), .ref (b 2), .ref (b 3), .ref (b 4), .int 0, .ref (b 5), .int 0, .int 0, .int 0, .int 0, .int 0, .int 0, .int (-1), .ref (b 6), .int 0, .ref (b 7), .int 0, .int (-1), .int 0, .ref (b 8), .int 0, .ref (b 9), .int 0, .ref (b 10), .ref (b 11), .ref (b 12), .int 0, .int 0, .int 0, .ref (b 13), .ref (b 14), .ref (b 15), .int 0, .int 0, .int 0, .ref (b 16), .ref (b 17), .ref (b 18), .ref (b 19)])), (b 1, .inl (t 0, 841, .inl (fun _ => 0)))] s.heap := hP
  refine lv_aload_n hx hb dX12_sits_0 rfl (lv_at hl 0 rfl) ?_
  refine lv_iload_n hx hb dX12_sits_1 rfl (lv_at hl 1 rfl) ?_
  refine x_pV hF (c_X12_isDistrict l D t b x) m_1636 m_1638 m_s61 m_13 m_1639 hd_X12_isDistrict ⟨Nat.le_of_ble_eq_true rfl, Nat.le_of_ble_eq_true rfl⟩ hK hN hP hS [0, 1] rfl 0 (ci := 12) rfl rfl rfl hl.1 rfl (Nat.le_of_ble_eq_true rfl) dX12_sits_2 ⟨Nat.zero_le _, Nat.zero_le _⟩ (fun H locs hP hS => ?_)
  refine lv_if_eq (tgt := 15) hx hb dX12_sits_5 (by decide) (fun _ => ?_) (fun c9 => absurd (by decide) c9)
  refine lv_bipush (v := (-2)) hx hb dX12_sits_15 (by decide) ?_
  exact W.iret (v := (-2)) hx hb hr (fun t9 ht hW => ⟨⟨(-2), (), rfl, rfl, trivial⟩, hS.F ht⟩) hS.2.2 dX12_sits_17

set_option maxHeartbeats 4000000 in
set_option maxRecDepth 100000 in
theorem c_X12_with (l : Launch) (D : va_G) (t : Nat → ClassId) (b : Nat → Nat) (x : Int32) (y : Int32) : Met l yX12_with (wd yX12_with cX12_with 4 (some .int)) (RM 3 0 0) (PreP D (TY t) [.ref (b 0), .int x, .int y] [(b 0, .inr (12, [.int 0, .ref (b 1), .ref (b 2), .ref (b 3), .ref (b 4), .int 0, .ref (b 5), .int 0, .int 0, .int 0, .int 0, .int 0, .int 0, .int (-1), .ref (b 6), .int 0, .ref (b 7), .int 0, .int (-1), .int 0, .ref (b 8), .int 0, .ref (b 9), .int 0, .ref (b 10), .ref (b 11), .ref (b 12), .int 0, .int 0, .int 0, .ref (b 13), .ref (b 14), .ref (b 15), .int 0, .int 0, .int 0, .ref (b 16), .ref (b 17), .ref (b 18), .ref (b 19)])), (b 1, .inl (t 0, 841, .inl (fun _ => 0)))]) (QI (-2)) 0 0 NoF := by
  refine Met.ofW (cc := cX12_with) (maxL := 4) (ret := (some .int)) (by decide) rfl ?_
  intro p e s m args below meth c s₁ B hml hv
  obtain ⟨rfl, hP, hK, hN⟩ := hv
  have hx := B.exec
  have hb := B.bytes
  have hr := B.returns
  have hts : ∀ w ∈ TB, w.before _ s = true := fun w h => atoms_spec (ws := wd yX12_with cX12_with 4 (some .int)) B.pre w (List.mem_cons_of_mem _ h)
  have hown : s.vm.findClass RX12 = some m.cls := findClass_of_methodNamed B.named
  have hlocks := B.notSynchronized
  have hF : CallFix p m c cX12_with 4 s _ TB RX12 := ⟨hx, hb, hml, hown, hts⟩
  have hl := lv_entry ([.ref (b 0), .int x, .int y]) (n := 4) (Nat.le_of_ble_eq_true rfl)
  rw [lg_entry_eq]
  generalize (lg_sl ([.ref (b 0), .int x, .int y]) ++ List.replicate (4 - (lg_sl ([.ref (b 0), .int x, .int y])).length) Slot.unset).toArray = ls at hl ⊢
  have hl : lv_has ls 4 [(0, .ref (b 0)), (1, .int x), (2, .int y)] := hl
  have hS : va_S NoF s.heap s.heap [] := va_S.rf
  have hP : va_P D classes [(b 0, .inr (12, [.int 0, .ref (b 1), .ref (b 2), .ref (b 3), .ref (b 4), .int 0, .ref (b 5), .int 0, .int 0, .int 0, .int 0, .int 0, .int 0, .int (-1), .ref (b 6), .int 0, .ref (b 7), .int 0, .int (-1), .int 0, .ref (b 8), .int 0, .ref (b 9), .int 0, .ref (b 10), .ref (b 11), .ref (b 12), .int 0, .int 0, .int 0, .ref (b 13), .ref (b 14), .ref (b 15), .int 0, .int 0, .int 0, .ref (b 16), .ref (b 17), .ref (b 18), .ref (b 19)])), (b 1, .inl (t 0, 841, .inl (fun _ => 0)))] s.heap := hP
  refine lv_aload_n hx hb dX12_with_0 rfl (lv_at hl 0 rfl) ?_
  refine lv_iload_n hx hb dX12_with_1 rfl (lv_at hl 1 rfl) ?_
  refine x_pV hF (c_X12_isDistrict l D t b x) m_1636 m_1638 m_s61 m_13 m_1639 hd_X12_isDistrict ⟨Nat.le_of_ble_eq_true rfl, Nat.le_of_ble_eq_true rfl⟩ hK hN hP hS [0, 1] rfl 0 (ci := 12) rfl rfl rfl hl.1 rfl (Nat.le_of_ble_eq_true rfl) dX12_with_2 ⟨Nat.zero_le _, Nat.zero_le _⟩ (fun H locs hP hS => ?_)
  refine lv_if_eq (tgt := 15) hx hb dX12_with_5 (by decide) (fun _ => ?_) (fun c9 => absurd (by decide) c9)
  refine lv_bipush (v := (-2)) hx hb dX12_with_15 (by decide) ?_
  exact W.iret (v := (-2)) hx hb hr (fun t9 ht hW => ⟨⟨(-2), (), rfl, rfl, trivial⟩, hS.F ht⟩) hS.2.2 dX12_with_17

set_option maxHeartbeats 4000000 in
set_option maxRecDepth 100000 in
theorem c_X12_struck (l : Launch) (D : va_G) (t : Nat → ClassId) (b : Nat → Nat) (x : Int32) (y : Int32) : Met l yX12_struck (wd yX12_struck cX12_struck 3 (some .int)) (RM 3 0 0) (PreP D (TY t) [.ref (b 0), .int x, .int y] [(b 0, .inr (12, [.int 0, .ref (b 1), .ref (b 2), .ref (b 3), .ref (b 4), .int 0, .ref (b 5), .int 0, .int 0, .int 0, .int 0, .int 0, .int 0, .int (-1), .ref (b 6), .int 0, .ref (b 7), .int 0, .int (-1), .int 0, .ref (b 8), .int 0, .ref (b 9), .int 0, .ref (b 10), .ref (b 11), .ref (b 12), .int 0, .int 0, .int 0, .ref (b 13), .ref (b 14), .ref (b 15), .int 0, .int 0, .int 0, .ref (b 16), .ref (b 17), .ref (b 18), .ref (b 19)])), (b 1, .inl (t 0, 841, .inl (fun _ => 0)))]) (QI (-2)) 0 0 NoF := by
  refine Met.ofW (cc := cX12_struck) (maxL := 3) (ret := (some .int)) (by decide) rfl ?_
  intro p e s m args below meth c s₁ B hml hv
  obtain ⟨rfl, hP, hK, hN⟩ := hv
  have hx := B.exec
  have hb := B.bytes
  have hr := B.returns
  have hts : ∀ w ∈ TB, w.before _ s = true := fun w h => atoms_spec (ws := wd yX12_struck cX12_struck 3 (some .int)) B.pre w (List.mem_cons_of_mem _ h)
  have hown : s.vm.findClass RX12 = some m.cls := findClass_of_methodNamed B.named
  have hlocks := B.notSynchronized
  have hF : CallFix p m c cX12_struck 3 s _ TB RX12 := ⟨hx, hb, hml, hown, hts⟩
  have hl := lv_entry ([.ref (b 0), .int x, .int y]) (n := 3) (Nat.le_of_ble_eq_true rfl)
  rw [lg_entry_eq]
  generalize (lg_sl ([.ref (b 0), .int x, .int y]) ++ List.replicate (3 - (lg_sl ([.ref (b 0), .int x, .int y])).length) Slot.unset).toArray = ls at hl ⊢
  have hl : lv_has ls 3 [(0, .ref (b 0)), (1, .int x), (2, .int y)] := hl
  have hS : va_S NoF s.heap s.heap [] := va_S.rf
  have hP : va_P D classes [(b 0, .inr (12, [.int 0, .ref (b 1), .ref (b 2), .ref (b 3), .ref (b 4), .int 0, .ref (b 5), .int 0, .int 0, .int 0, .int 0, .int 0, .int 0, .int (-1), .ref (b 6), .int 0, .ref (b 7), .int 0, .int (-1), .int 0, .ref (b 8), .int 0, .ref (b 9), .int 0, .ref (b 10), .ref (b 11), .ref (b 12), .int 0, .int 0, .int 0, .ref (b 13), .ref (b 14), .ref (b 15), .int 0, .int 0, .int 0, .ref (b 16), .ref (b 17), .ref (b 18), .ref (b 19)])), (b 1, .inl (t 0, 841, .inl (fun _ => 0)))] s.heap := hP
  refine lv_aload_n hx hb dX12_struck_0 rfl (lv_at hl 0 rfl) ?_
  refine lv_iload_n hx hb dX12_struck_1 rfl (lv_at hl 1 rfl) ?_
  refine x_pV hF (c_X12_isDistrict l D t b x) m_1636 m_1638 m_s61 m_13 m_1639 hd_X12_isDistrict ⟨Nat.le_of_ble_eq_true rfl, Nat.le_of_ble_eq_true rfl⟩ hK hN hP hS [0, 1] rfl 0 (ci := 12) rfl rfl rfl hl.1 rfl (Nat.le_of_ble_eq_true rfl) dX12_struck_2 ⟨Nat.zero_le _, Nat.zero_le _⟩ (fun H locs hP hS => ?_)
  refine lv_if_ne (tgt := 11) hx hb dX12_struck_5 (by decide) (fun c9 => absurd c9 (by decide)) (fun _ => ?_)
  refine lv_bipush (v := (-2)) hx hb dX12_struck_8 (by decide) ?_
  exact W.iret (v := (-2)) hx hb hr (fun t9 ht hW => ⟨⟨(-2), (), rfl, rfl, trivial⟩, hS.F ht⟩) hS.2.2 dX12_struck_10

set_option maxHeartbeats 4000000 in
set_option maxRecDepth 100000 in
theorem c_X12_beats (l : Launch) (D : va_G) (t : Nat → ClassId) (b : Nat → Nat) (x : Int32) (y : Int32) : Met l yX12_beats (wd yX12_beats cX12_beats 3 (some .int)) (RM 3 0 0) (PreP D (TY t) [.ref (b 0), .int x, .int y] [(b 0, .inr (12, [.int 0, .ref (b 1), .ref (b 2), .ref (b 3), .ref (b 4), .int 0, .ref (b 5), .int 0, .int 0, .int 0, .int 0, .int 0, .int 0, .int (-1), .ref (b 6), .int 0, .ref (b 7), .int 0, .int (-1), .int 0, .ref (b 8), .int 0, .ref (b 9), .int 0, .ref (b 10), .ref (b 11), .ref (b 12), .int 0, .int 0, .int 0, .ref (b 13), .ref (b 14), .ref (b 15), .int 0, .int 0, .int 0, .ref (b 16), .ref (b 17), .ref (b 18), .ref (b 19)])), (b 1, .inl (t 0, 841, .inl (fun _ => 0)))]) (QI (-2)) 0 0 NoF := by
  refine Met.ofW (cc := cX12_beats) (maxL := 3) (ret := (some .int)) (by decide) rfl ?_
  intro p e s m args below meth c s₁ B hml hv
  obtain ⟨rfl, hP, hK, hN⟩ := hv
  have hx := B.exec
  have hb := B.bytes
  have hr := B.returns
  have hts : ∀ w ∈ TB, w.before _ s = true := fun w h => atoms_spec (ws := wd yX12_beats cX12_beats 3 (some .int)) B.pre w (List.mem_cons_of_mem _ h)
  have hown : s.vm.findClass RX12 = some m.cls := findClass_of_methodNamed B.named
  have hlocks := B.notSynchronized
  have hF : CallFix p m c cX12_beats 3 s _ TB RX12 := ⟨hx, hb, hml, hown, hts⟩
  have hl := lv_entry ([.ref (b 0), .int x, .int y]) (n := 3) (Nat.le_of_ble_eq_true rfl)
  rw [lg_entry_eq]
  generalize (lg_sl ([.ref (b 0), .int x, .int y]) ++ List.replicate (3 - (lg_sl ([.ref (b 0), .int x, .int y])).length) Slot.unset).toArray = ls at hl ⊢
  have hl : lv_has ls 3 [(0, .ref (b 0)), (1, .int x), (2, .int y)] := hl
  have hS : va_S NoF s.heap s.heap [] := va_S.rf
  have hP : va_P D classes [(b 0, .inr (12, [.int 0, .ref (b 1), .ref (b 2), .ref (b 3), .ref (b 4), .int 0, .ref (b 5), .int 0, .int 0, .int 0, .int 0, .int 0, .int 0, .int (-1), .ref (b 6), .int 0, .ref (b 7), .int 0, .int (-1), .int 0, .ref (b 8), .int 0, .ref (b 9), .int 0, .ref (b 10), .ref (b 11), .ref (b 12), .int 0, .int 0, .int 0, .ref (b 13), .ref (b 14), .ref (b 15), .int 0, .int 0, .int 0, .ref (b 16), .ref (b 17), .ref (b 18), .ref (b 19)])), (b 1, .inl (t 0, 841, .inl (fun _ => 0)))] s.heap := hP
  refine lv_aload_n hx hb dX12_beats_0 rfl (lv_at hl 0 rfl) ?_
  refine lv_iload_n hx hb dX12_beats_1 rfl (lv_at hl 1 rfl) ?_
  refine lv_i2l hx hb dX12_beats_2 rfl ?_
  refine x_pV hF (c_X12_isWord l D t b x.toInt64) m_1607 m_1609 m_s57 m_13 m_1610 hd_X12_isWord ⟨Nat.le_of_ble_eq_true rfl, Nat.le_of_ble_eq_true rfl⟩ hK hN hP hS [0, 1] rfl 0 (ci := 12) rfl rfl rfl hl.1 rfl (Nat.le_of_ble_eq_true rfl) dX12_beats_3 ⟨Nat.zero_le _, Nat.zero_le _⟩ (fun H locs hP hS => ?_)
  refine lv_if_eq (tgt := 54) hx hb dX12_beats_6 (by decide) (fun _ => ?_) (fun c9 => absurd (by decide) c9)
  refine lv_bipush (v := (-2)) hx hb dX12_beats_54 (by decide) ?_
  exact W.iret (v := (-2)) hx hb hr (fun t9 ht hW => ⟨⟨(-2), (), rfl, rfl, trivial⟩, hS.F ht⟩) hS.2.2 dX12_beats_56

set_option maxHeartbeats 4000000 in
set_option maxRecDepth 100000 in
theorem c_X12_best (l : Launch) (D : va_G) (t : Nat → ClassId) (b : Nat → Nat) (x : Int32) : Met l yX12_best (wd yX12_best cX12_best 6 (some .int)) (RM 3 0 0) (PreP D (TY t) [.ref (b 0), .int x] [(b 0, .inr (12, [.int 0, .ref (b 1), .ref (b 2), .ref (b 3), .ref (b 4), .int 0, .ref (b 5), .int 0, .int 0, .int 0, .int 0, .int 0, .int 0, .int (-1), .ref (b 6), .int 0, .ref (b 7), .int 0, .int (-1), .int 0, .ref (b 8), .int 0, .ref (b 9), .int 0, .ref (b 10), .ref (b 11), .ref (b 12), .int 0, .int 0, .int 0, .ref (b 13), .ref (b 14), .ref (b 15), .int 0, .int 0, .int 0, .ref (b 16), .ref (b 17), .ref (b 18), .ref (b 19)])), (b 1, .inl (t 0, 841, .inl (fun _ => 0)))]) (QI (-2)) 0 0 NoF := by
  refine Met.ofW (cc := cX12_best) (maxL := 6) (ret := (some .int)) (by decide) rfl ?_
  intro p e s m args below meth c s₁ B hml hv
  obtain ⟨rfl, hP, hK, hN⟩ := hv
  have hx := B.exec
  have hb := B.bytes
  have hr := B.returns
  have hts : ∀ w ∈ TB, w.before _ s = true := fun w h => atoms_spec (ws := wd yX12_best cX12_best 6 (some .int)) B.pre w (List.mem_cons_of_mem _ h)
  have hown : s.vm.findClass RX12 = some m.cls := findClass_of_methodNamed B.named
  have hlocks := B.notSynchronized
  have hF : CallFix p m c cX12_best 6 s _ TB RX12 := ⟨hx, hb, hml, hown, hts⟩
  have hl := lv_entry ([.ref (b 0), .int x]) (n := 6) (Nat.le_of_ble_eq_true rfl)
  rw [lg_entry_eq]
  generalize (lg_sl ([.ref (b 0), .int x]) ++ List.replicate (6 - (lg_sl ([.ref (b 0), .int x])).length) Slot.unset).toArray = ls at hl ⊢
  have hl : lv_has ls 6 [(0, .ref (b 0)), (1, .int x)] := hl
  have hS : va_S NoF s.heap s.heap [] := va_S.rf
  have hP : va_P D classes [(b 0, .inr (12, [.int 0, .ref (b 1), .ref (b 2), .ref (b 3), .ref (b 4), .int 0, .ref (b 5), .int 0, .int 0, .int 0, .int 0, .int 0, .int 0, .int (-1), .ref (b 6), .int 0, .ref (b 7), .int 0, .int (-1), .int 0, .ref (b 8), .int 0, .ref (b 9), .int 0, .ref (b 10), .ref (b 11), .ref (b 12), .int 0, .int 0, .int 0, .ref (b 13), .ref (b 14), .ref (b 15), .int 0, .int 0, .int 0, .ref (b 16), .ref (b 17), .ref (b 18), .ref (b 19)])), (b 1, .inl (t 0, 841, .inl (fun _ => 0)))] s.heap := hP
  refine lv_aload_n hx hb dX12_best_0 rfl (lv_at hl 0 rfl) ?_
  refine lv_iload_n hx hb dX12_best_1 rfl (lv_at hl 1 rfl) ?_
  refine x_pV hF (c_X12_isDistrict l D t b x) m_1636 m_1638 m_s61 m_13 m_1639 hd_X12_isDistrict ⟨Nat.le_of_ble_eq_true rfl, Nat.le_of_ble_eq_true rfl⟩ hK hN hP hS [0, 1] rfl 0 (ci := 12) rfl rfl rfl hl.1 rfl (Nat.le_of_ble_eq_true rfl) dX12_best_2 ⟨Nat.zero_le _, Nat.zero_le _⟩ (fun H locs hP hS => ?_)
  refine lv_if_ne (tgt := 11) hx hb dX12_best_5 (by decide) (fun c9 => absurd c9 (by decide)) (fun _ => ?_)
  refine lv_bipush (v := (-2)) hx hb dX12_best_8 (by decide) ?_
  exact W.iret (v := (-2)) hx hb hr (fun t9 ht hW => ⟨⟨(-2), (), rfl, rfl, trivial⟩, hS.F ht⟩) hS.2.2 dX12_best_10

set_option maxHeartbeats 4000000 in
set_option maxRecDepth 100000 in
theorem c_X12_unlike_ (l : Launch) (D : va_G) (t : Nat → ClassId) (b : Nat → Nat) (x : Int32) (y : Int32) : Met l yX12_unlike_ (wd yX12_unlike_ cX12_unlike_ 5 (some .int)) (RM 3 0 0) (PreP D (TY t) [.ref (b 0), .int x, .int y] [(b 0, .inr (12, [.int 0, .ref (b 1), .ref (b 2), .ref (b 3), .ref (b 4), .int 0, .ref (b 5), .int 0, .int 0, .int 0, .int 0, .int 0, .int 0, .int (-1), .ref (b 6), .int 0, .ref (b 7), .int 0, .int (-1), .int 0, .ref (b 8), .int 0, .ref (b 9), .int 0, .ref (b 10), .ref (b 11), .ref (b 12), .int 0, .int 0, .int 0, .ref (b 13), .ref (b 14), .ref (b 15), .int 0, .int 0, .int 0, .ref (b 16), .ref (b 17), .ref (b 18), .ref (b 19)])), (b 1, .inl (t 0, 841, .inl (fun _ => 0)))]) (QI (-2)) 0 0 NoF := by
  refine Met.ofW (cc := cX12_unlike_) (maxL := 5) (ret := (some .int)) (by decide) rfl ?_
  intro p e s m args below meth c s₁ B hml hv
  obtain ⟨rfl, hP, hK, hN⟩ := hv
  have hx := B.exec
  have hb := B.bytes
  have hr := B.returns
  have hts : ∀ w ∈ TB, w.before _ s = true := fun w h => atoms_spec (ws := wd yX12_unlike_ cX12_unlike_ 5 (some .int)) B.pre w (List.mem_cons_of_mem _ h)
  have hown : s.vm.findClass RX12 = some m.cls := findClass_of_methodNamed B.named
  have hlocks := B.notSynchronized
  have hF : CallFix p m c cX12_unlike_ 5 s _ TB RX12 := ⟨hx, hb, hml, hown, hts⟩
  have hl := lv_entry ([.ref (b 0), .int x, .int y]) (n := 5) (Nat.le_of_ble_eq_true rfl)
  rw [lg_entry_eq]
  generalize (lg_sl ([.ref (b 0), .int x, .int y]) ++ List.replicate (5 - (lg_sl ([.ref (b 0), .int x, .int y])).length) Slot.unset).toArray = ls at hl ⊢
  have hl : lv_has ls 5 [(0, .ref (b 0)), (1, .int x), (2, .int y)] := hl
  have hS : va_S NoF s.heap s.heap [] := va_S.rf
  have hP : va_P D classes [(b 0, .inr (12, [.int 0, .ref (b 1), .ref (b 2), .ref (b 3), .ref (b 4), .int 0, .ref (b 5), .int 0, .int 0, .int 0, .int 0, .int 0, .int 0, .int (-1), .ref (b 6), .int 0, .ref (b 7), .int 0, .int (-1), .int 0, .ref (b 8), .int 0, .ref (b 9), .int 0, .ref (b 10), .ref (b 11), .ref (b 12), .int 0, .int 0, .int 0, .ref (b 13), .ref (b 14), .ref (b 15), .int 0, .int 0, .int 0, .ref (b 16), .ref (b 17), .ref (b 18), .ref (b 19)])), (b 1, .inl (t 0, 841, .inl (fun _ => 0)))] s.heap := hP
  refine lv_aload_n hx hb dX12_unlike__0 rfl (lv_at hl 0 rfl) ?_
  refine x_pV hF (c_X12_isChamber l D t b) m_1766 m_1768 m_s81 m_13 m_1769 hd_X12_isChamber ⟨Nat.le_of_ble_eq_true rfl, Nat.le_of_ble_eq_true rfl⟩ hK hN hP hS [0, 1] rfl 0 (ci := 12) rfl rfl rfl hl.1 rfl (Nat.le_of_ble_eq_true rfl) dX12_unlike__1 ⟨Nat.zero_le _, Nat.zero_le _⟩ (fun H locs hP hS => ?_)
  refine lv_if_eq (tgt := 21) hx hb dX12_unlike__4 (by decide) (fun _ => ?_) (fun c9 => absurd (by decide) c9)
  refine lv_bipush (v := (-2)) hx hb dX12_unlike__21 (by decide) ?_
  exact W.iret (v := (-2)) hx hb hr (fun t9 ht hW => ⟨⟨(-2), (), rfl, rfl, trivial⟩, hS.F ht⟩) hS.2.2 dX12_unlike__23

set_option maxHeartbeats 4000000 in
set_option maxRecDepth 100000 in
theorem c_X12_synonyms (l : Launch) (D : va_G) (t : Nat → ClassId) (b : Nat → Nat) (x : Int32) : Met l yX12_synonyms (wd yX12_synonyms cX12_synonyms 4 (some .int)) (RM 3 0 0) (PreP D (TY t) [.ref (b 0), .int x] [(b 0, .inr (12, [.int 0, .ref (b 1), .ref (b 2), .ref (b 3), .ref (b 4), .int 0, .ref (b 5), .int 0, .int 0, .int 0, .int 0, .int 0, .int 0, .int (-1), .ref (b 6), .int 0, .ref (b 7), .int 0, .int (-1), .int 0, .ref (b 8), .int 0, .ref (b 9), .int 0, .ref (b 10), .ref (b 11), .ref (b 12), .int 0, .int 0, .int 0, .ref (b 13), .ref (b 14), .ref (b 15), .int 0, .int 0, .int 0, .ref (b 16), .ref (b 17), .ref (b 18), .ref (b 19)])), (b 1, .inl (t 0, 841, .inl (fun _ => 0)))]) (QI (-2)) 0 0 NoF := by
  refine Met.ofW (cc := cX12_synonyms) (maxL := 4) (ret := (some .int)) (by decide) rfl ?_
  intro p e s m args below meth c s₁ B hml hv
  obtain ⟨rfl, hP, hK, hN⟩ := hv
  have hx := B.exec
  have hb := B.bytes
  have hr := B.returns
  have hts : ∀ w ∈ TB, w.before _ s = true := fun w h => atoms_spec (ws := wd yX12_synonyms cX12_synonyms 4 (some .int)) B.pre w (List.mem_cons_of_mem _ h)
  have hown : s.vm.findClass RX12 = some m.cls := findClass_of_methodNamed B.named
  have hlocks := B.notSynchronized
  have hF : CallFix p m c cX12_synonyms 4 s _ TB RX12 := ⟨hx, hb, hml, hown, hts⟩
  have hl := lv_entry ([.ref (b 0), .int x]) (n := 4) (Nat.le_of_ble_eq_true rfl)
  rw [lg_entry_eq]
  generalize (lg_sl ([.ref (b 0), .int x]) ++ List.replicate (4 - (lg_sl ([.ref (b 0), .int x])).length) Slot.unset).toArray = ls at hl ⊢
  have hl : lv_has ls 4 [(0, .ref (b 0)), (1, .int x)] := hl
  have hS : va_S NoF s.heap s.heap [] := va_S.rf
  have hP : va_P D classes [(b 0, .inr (12, [.int 0, .ref (b 1), .ref (b 2), .ref (b 3), .ref (b 4), .int 0, .ref (b 5), .int 0, .int 0, .int 0, .int 0, .int 0, .int 0, .int (-1), .ref (b 6), .int 0, .ref (b 7), .int 0, .int (-1), .int 0, .ref (b 8), .int 0, .ref (b 9), .int 0, .ref (b 10), .ref (b 11), .ref (b 12), .int 0, .int 0, .int 0, .ref (b 13), .ref (b 14), .ref (b 15), .int 0, .int 0, .int 0, .ref (b 16), .ref (b 17), .ref (b 18), .ref (b 19)])), (b 1, .inl (t 0, 841, .inl (fun _ => 0)))] s.heap := hP
  refine lv_aload_n hx hb dX12_synonyms_0 rfl (lv_at hl 0 rfl) ?_
  refine lv_iload_n hx hb dX12_synonyms_1 rfl (lv_at hl 1 rfl) ?_
  refine lv_i2l hx hb dX12_synonyms_2 rfl ?_
  refine x_pV hF (c_X12_isWord l D t b x.toInt64) m_1607 m_1609 m_s57 m_13 m_1610 hd_X12_isWord ⟨Nat.le_of_ble_eq_true rfl, Nat.le_of_ble_eq_true rfl⟩ hK hN hP hS [0, 1] rfl 0 (ci := 12) rfl rfl rfl hl.1 rfl (Nat.le_of_ble_eq_true rfl) dX12_synonyms_3 ⟨Nat.zero_le _, Nat.zero_le _⟩ (fun H locs hP hS => ?_)
  refine lv_if_ne (tgt := 12) hx hb dX12_synonyms_6 (by decide) (fun c9 => absurd c9 (by decide)) (fun _ => ?_)
  refine lv_bipush (v := (-2)) hx hb dX12_synonyms_9 (by decide) ?_
  exact W.iret (v := (-2)) hx hb hr (fun t9 ht hW => ⟨⟨(-2), (), rfl, rfl, trivial⟩, hS.F ht⟩) hS.2.2 dX12_synonyms_11

set_option maxHeartbeats 4000000 in
set_option maxRecDepth 100000 in
theorem c_X12_spoils (l : Launch) (D : va_G) (t : Nat → ClassId) (b : Nat → Nat) (x : Int32) : Met l yX12_spoils (wd yX12_spoils cX12_spoils 2 (some .int)) (RM 3 0 0) (PreP D (TY t) [.ref (b 0), .int x] [(b 0, .inr (12, [.int 0, .ref (b 1), .ref (b 2), .ref (b 3), .ref (b 4), .int 0, .ref (b 5), .int 0, .int 0, .int 0, .int 0, .int 0, .int 0, .int (-1), .ref (b 6), .int 0, .ref (b 7), .int 0, .int (-1), .int 0, .ref (b 8), .int 0, .ref (b 9), .int 0, .ref (b 10), .ref (b 11), .ref (b 12), .int 0, .int 0, .int 0, .ref (b 13), .ref (b 14), .ref (b 15), .int 0, .int 0, .int 0, .ref (b 16), .ref (b 17), .ref (b 18), .ref (b 19)])), (b 1, .inl (t 0, 841, .inl (fun _ => 0)))]) (QI (-2)) 0 0 NoF := by
  refine Met.ofW (cc := cX12_spoils) (maxL := 2) (ret := (some .int)) (by decide) rfl ?_
  intro p e s m args below meth c s₁ B hml hv
  obtain ⟨rfl, hP, hK, hN⟩ := hv
  have hx := B.exec
  have hb := B.bytes
  have hr := B.returns
  have hts : ∀ w ∈ TB, w.before _ s = true := fun w h => atoms_spec (ws := wd yX12_spoils cX12_spoils 2 (some .int)) B.pre w (List.mem_cons_of_mem _ h)
  have hown : s.vm.findClass RX12 = some m.cls := findClass_of_methodNamed B.named
  have hlocks := B.notSynchronized
  have hF : CallFix p m c cX12_spoils 2 s _ TB RX12 := ⟨hx, hb, hml, hown, hts⟩
  have hl := lv_entry ([.ref (b 0), .int x]) (n := 2) (Nat.le_of_ble_eq_true rfl)
  rw [lg_entry_eq]
  generalize (lg_sl ([.ref (b 0), .int x]) ++ List.replicate (2 - (lg_sl ([.ref (b 0), .int x])).length) Slot.unset).toArray = ls at hl ⊢
  have hl : lv_has ls 2 [(0, .ref (b 0)), (1, .int x)] := hl
  have hS : va_S NoF s.heap s.heap [] := va_S.rf
  have hP : va_P D classes [(b 0, .inr (12, [.int 0, .ref (b 1), .ref (b 2), .ref (b 3), .ref (b 4), .int 0, .ref (b 5), .int 0, .int 0, .int 0, .int 0, .int 0, .int 0, .int (-1), .ref (b 6), .int 0, .ref (b 7), .int 0, .int (-1), .int 0, .ref (b 8), .int 0, .ref (b 9), .int 0, .ref (b 10), .ref (b 11), .ref (b 12), .int 0, .int 0, .int 0, .ref (b 13), .ref (b 14), .ref (b 15), .int 0, .int 0, .int 0, .ref (b 16), .ref (b 17), .ref (b 18), .ref (b 19)])), (b 1, .inl (t 0, 841, .inl (fun _ => 0)))] s.heap := hP
  refine lv_aload_n hx hb dX12_spoils_0 rfl (lv_at hl 0 rfl) ?_
  refine lv_iload_n hx hb dX12_spoils_1 rfl (lv_at hl 1 rfl) ?_
  refine lv_i2l hx hb dX12_spoils_2 rfl ?_
  refine x_pV hF (c_X12_isWord l D t b x.toInt64) m_1607 m_1609 m_s57 m_13 m_1610 hd_X12_isWord ⟨Nat.le_of_ble_eq_true rfl, Nat.le_of_ble_eq_true rfl⟩ hK hN hP hS [0, 1] rfl 0 (ci := 12) rfl rfl rfl hl.1 rfl (Nat.le_of_ble_eq_true rfl) dX12_spoils_3 ⟨Nat.zero_le _, Nat.zero_le _⟩ (fun H locs hP hS => ?_)
  refine lv_if_eq (tgt := 17) hx hb dX12_spoils_6 (by decide) (fun _ => ?_) (fun c9 => absurd (by decide) c9)
  refine lv_bipush (v := (-2)) hx hb dX12_spoils_17 (by decide) ?_
  exact W.iret (v := (-2)) hx hb hr (fun t9 ht hW => ⟨⟨(-2), (), rfl, rfl, trivial⟩, hS.F ht⟩) hS.2.2 dX12_spoils_19

set_option maxHeartbeats 4000000 in
set_option maxRecDepth 100000 in
theorem c_X12_spoilers (l : Launch) (D : va_G) (t : Nat → ClassId) (b : Nat → Nat) : Met l yX12_spoilers (wd yX12_spoilers cX12_spoilers 5 (some .int)) (RM 3 0 0) (PreP D (TY t) [.ref (b 0)] [(b 0, .inr (12, [.int 0, .ref (b 1), .ref (b 2), .ref (b 3), .ref (b 4), .int 0, .ref (b 5), .int 0, .int 0, .int 0, .int 0, .int 0, .int 0, .int (-1), .ref (b 6), .int 0, .ref (b 7), .int 0, .int (-1), .int 0, .ref (b 8), .int 0, .ref (b 9), .int 0, .ref (b 10), .ref (b 11), .ref (b 12), .int 0, .int 0, .int 0, .ref (b 13), .ref (b 14), .ref (b 15), .int 0, .int 0, .int 0, .ref (b 16), .ref (b 17), .ref (b 18), .ref (b 19)])), (b 1, .inl (t 0, 841, .inl (fun _ => 0)))]) (QI (-2)) 0 0 NoF := by
  refine Met.ofW (cc := cX12_spoilers) (maxL := 5) (ret := (some .int)) (by decide) rfl ?_
  intro p e s m args below meth c s₁ B hml hv
  obtain ⟨rfl, hP, hK, hN⟩ := hv
  have hx := B.exec
  have hb := B.bytes
  have hr := B.returns
  have hts : ∀ w ∈ TB, w.before _ s = true := fun w h => atoms_spec (ws := wd yX12_spoilers cX12_spoilers 5 (some .int)) B.pre w (List.mem_cons_of_mem _ h)
  have hown : s.vm.findClass RX12 = some m.cls := findClass_of_methodNamed B.named
  have hlocks := B.notSynchronized
  have hF : CallFix p m c cX12_spoilers 5 s _ TB RX12 := ⟨hx, hb, hml, hown, hts⟩
  have hl := lv_entry ([.ref (b 0)]) (n := 5) (Nat.le_of_ble_eq_true rfl)
  rw [lg_entry_eq]
  generalize (lg_sl ([.ref (b 0)]) ++ List.replicate (5 - (lg_sl ([.ref (b 0)])).length) Slot.unset).toArray = ls at hl ⊢
  have hl : lv_has ls 5 [(0, .ref (b 0))] := hl
  have hS : va_S NoF s.heap s.heap [] := va_S.rf
  have hP : va_P D classes [(b 0, .inr (12, [.int 0, .ref (b 1), .ref (b 2), .ref (b 3), .ref (b 4), .int 0, .ref (b 5), .int 0, .int 0, .int 0, .int 0, .int 0, .int 0, .int (-1), .ref (b 6), .int 0, .ref (b 7), .int 0, .int (-1), .int 0, .ref (b 8), .int 0, .ref (b 9), .int 0, .ref (b 10), .ref (b 11), .ref (b 12), .int 0, .int 0, .int 0, .ref (b 13), .ref (b 14), .ref (b 15), .int 0, .int 0, .int 0, .ref (b 16), .ref (b 17), .ref (b 18), .ref (b 19)])), (b 1, .inl (t 0, 841, .inl (fun _ => 0)))] s.heap := hP
  refine lv_aload_n hx hb dX12_spoilers_0 rfl (lv_at hl 0 rfl) ?_
  refine x_pV hF (c_X12_isChamber l D t b) m_1766 m_1768 m_s81 m_13 m_1769 hd_X12_isChamber ⟨Nat.le_of_ble_eq_true rfl, Nat.le_of_ble_eq_true rfl⟩ hK hN hP hS [0, 1] rfl 0 (ci := 12) rfl rfl rfl hl.1 rfl (Nat.le_of_ble_eq_true rfl) dX12_spoilers_1 ⟨Nat.zero_le _, Nat.zero_le _⟩ (fun H locs hP hS => ?_)
  refine lv_if_ne (tgt := 10) hx hb dX12_spoilers_4 (by decide) (fun c9 => absurd c9 (by decide)) (fun _ => ?_)
  refine lv_bipush (v := (-2)) hx hb dX12_spoilers_7 (by decide) ?_
  exact W.iret (v := (-2)) hx hb hr (fun t9 ht hW => ⟨⟨(-2), (), rfl, rfl, trivial⟩, hS.F ht⟩) hS.2.2 dX12_spoilers_9

set_option maxHeartbeats 4000000 in
set_option maxRecDepth 100000 in
theorem c_X12_elected (l : Launch) (D : va_G) (t : Nat → ClassId) (b : Nat → Nat) : Met l yX12_elected (wd yX12_elected cX12_elected 1 (some .int)) (RM 3 0 0) (PreP D (TY t) [.ref (b 0)] [(b 0, .inr (12, [.int 0, .ref (b 1), .ref (b 2), .ref (b 3), .ref (b 4), .int 0, .ref (b 5), .int 0, .int 0, .int 0, .int 0, .int 0, .int 0, .int (-1), .ref (b 6), .int 0, .ref (b 7), .int 0, .int (-1), .int 0, .ref (b 8), .int 0, .ref (b 9), .int 0, .ref (b 10), .ref (b 11), .ref (b 12), .int 0, .int 0, .int 0, .ref (b 13), .ref (b 14), .ref (b 15), .int 0, .int 0, .int 0, .ref (b 16), .ref (b 17), .ref (b 18), .ref (b 19)])), (b 1, .inl (t 0, 841, .inl (fun _ => 0)))]) (QI (-2)) 0 0 NoF := by
  refine Met.ofW (cc := cX12_elected) (maxL := 1) (ret := (some .int)) (by decide) rfl ?_
  intro p e s m args below meth c s₁ B hml hv
  obtain ⟨rfl, hP, hK, hN⟩ := hv
  have hx := B.exec
  have hb := B.bytes
  have hr := B.returns
  have hts : ∀ w ∈ TB, w.before _ s = true := fun w h => atoms_spec (ws := wd yX12_elected cX12_elected 1 (some .int)) B.pre w (List.mem_cons_of_mem _ h)
  have hown : s.vm.findClass RX12 = some m.cls := findClass_of_methodNamed B.named
  have hlocks := B.notSynchronized
  have hF : CallFix p m c cX12_elected 1 s _ TB RX12 := ⟨hx, hb, hml, hown, hts⟩
  have hl := lv_entry ([.ref (b 0)]) (n := 1) (Nat.le_of_ble_eq_true rfl)
  rw [lg_entry_eq]
  generalize (lg_sl ([.ref (b 0)]) ++ List.replicate (1 - (lg_sl ([.ref (b 0)])).length) Slot.unset).toArray = ls at hl ⊢
  have hl : lv_has ls 1 [(0, .ref (b 0))] := hl
  have hS : va_S NoF s.heap s.heap [] := va_S.rf
  have hP : va_P D classes [(b 0, .inr (12, [.int 0, .ref (b 1), .ref (b 2), .ref (b 3), .ref (b 4), .int 0, .ref (b 5), .int 0, .int 0, .int 0, .int 0, .int 0, .int 0, .int (-1), .ref (b 6), .int 0, .ref (b 7), .int 0, .int (-1), .int 0, .ref (b 8), .int 0, .ref (b 9), .int 0, .ref (b 10), .ref (b 11), .ref (b 12), .int 0, .int 0, .int 0, .ref (b 13), .ref (b 14), .ref (b 15), .int 0, .int 0, .int 0, .ref (b 16), .ref (b 17), .ref (b 18), .ref (b 19)])), (b 1, .inl (t 0, 841, .inl (fun _ => 0)))] s.heap := hP
  refine lv_aload_n hx hb dX12_elected_0 rfl (lv_at hl 0 rfl) ?_
  refine x_pV hF (c_X12_isChamber l D t b) m_1766 m_1768 m_s81 m_13 m_1769 hd_X12_isChamber ⟨Nat.le_of_ble_eq_true rfl, Nat.le_of_ble_eq_true rfl⟩ hK hN hP hS [0, 1] rfl 0 (ci := 12) rfl rfl rfl hl.1 rfl (Nat.le_of_ble_eq_true rfl) dX12_elected_1 ⟨Nat.zero_le _, Nat.zero_le _⟩ (fun H locs hP hS => ?_)
  refine lv_if_ne (tgt := 10) hx hb dX12_elected_4 (by decide) (fun c9 => absurd c9 (by decide)) (fun _ => ?_)
  refine lv_bipush (v := (-2)) hx hb dX12_elected_7 (by decide) ?_
  exact W.iret (v := (-2)) hx hb hr (fun t9 ht hW => ⟨⟨(-2), (), rfl, rfl, trivial⟩, hS.F ht⟩) hS.2.2 dX12_elected_9

set_option maxHeartbeats 4000000 in
set_option maxRecDepth 100000 in
theorem c_X12_sitting (l : Launch) (D : va_G) (t : Nat → ClassId) (b : Nat → Nat) : Met l yX12_sitting (wd yX12_sitting cX12_sitting 1 (some .int)) (RM 3 0 0) (PreP D (TY t) [.ref (b 0)] [(b 0, .inr (12, [.int 0, .ref (b 1), .ref (b 2), .ref (b 3), .ref (b 4), .int 0, .ref (b 5), .int 0, .int 0, .int 0, .int 0, .int 0, .int 0, .int (-1), .ref (b 6), .int 0, .ref (b 7), .int 0, .int (-1), .int 0, .ref (b 8), .int 0, .ref (b 9), .int 0, .ref (b 10), .ref (b 11), .ref (b 12), .int 0, .int 0, .int 0, .ref (b 13), .ref (b 14), .ref (b 15), .int 0, .int 0, .int 0, .ref (b 16), .ref (b 17), .ref (b 18), .ref (b 19)])), (b 1, .inl (t 0, 841, .inl (fun _ => 0)))]) (QI (-2)) 0 0 NoF := by
  refine Met.ofW (cc := cX12_sitting) (maxL := 1) (ret := (some .int)) (by decide) rfl ?_
  intro p e s m args below meth c s₁ B hml hv
  obtain ⟨rfl, hP, hK, hN⟩ := hv
  have hx := B.exec
  have hb := B.bytes
  have hr := B.returns
  have hts : ∀ w ∈ TB, w.before _ s = true := fun w h => atoms_spec (ws := wd yX12_sitting cX12_sitting 1 (some .int)) B.pre w (List.mem_cons_of_mem _ h)
  have hown : s.vm.findClass RX12 = some m.cls := findClass_of_methodNamed B.named
  have hlocks := B.notSynchronized
  have hF : CallFix p m c cX12_sitting 1 s _ TB RX12 := ⟨hx, hb, hml, hown, hts⟩
  have hl := lv_entry ([.ref (b 0)]) (n := 1) (Nat.le_of_ble_eq_true rfl)
  rw [lg_entry_eq]
  generalize (lg_sl ([.ref (b 0)]) ++ List.replicate (1 - (lg_sl ([.ref (b 0)])).length) Slot.unset).toArray = ls at hl ⊢
  have hl : lv_has ls 1 [(0, .ref (b 0))] := hl
  have hS : va_S NoF s.heap s.heap [] := va_S.rf
  have hP : va_P D classes [(b 0, .inr (12, [.int 0, .ref (b 1), .ref (b 2), .ref (b 3), .ref (b 4), .int 0, .ref (b 5), .int 0, .int 0, .int 0, .int 0, .int 0, .int 0, .int (-1), .ref (b 6), .int 0, .ref (b 7), .int 0, .int (-1), .int 0, .ref (b 8), .int 0, .ref (b 9), .int 0, .ref (b 10), .ref (b 11), .ref (b 12), .int 0, .int 0, .int 0, .ref (b 13), .ref (b 14), .ref (b 15), .int 0, .int 0, .int 0, .ref (b 16), .ref (b 17), .ref (b 18), .ref (b 19)])), (b 1, .inl (t 0, 841, .inl (fun _ => 0)))] s.heap := hP
  refine lv_aload_n hx hb dX12_sitting_0 rfl (lv_at hl 0 rfl) ?_
  refine x_pV hF (c_X12_isChamber l D t b) m_1766 m_1768 m_s81 m_13 m_1769 hd_X12_isChamber ⟨Nat.le_of_ble_eq_true rfl, Nat.le_of_ble_eq_true rfl⟩ hK hN hP hS [0, 1] rfl 0 (ci := 12) rfl rfl rfl hl.1 rfl (Nat.le_of_ble_eq_true rfl) dX12_sitting_1 ⟨Nat.zero_le _, Nat.zero_le _⟩ (fun H locs hP hS => ?_)
  refine lv_if_eq (tgt := 17) hx hb dX12_sitting_4 (by decide) (fun _ => ?_) (fun c9 => absurd (by decide) c9)
  refine lv_bipush (v := (-2)) hx hb dX12_sitting_17 (by decide) ?_
  exact W.iret (v := (-2)) hx hb hr (fun t9 ht hW => ⟨⟨(-2), (), rfl, rfl, trivial⟩, hS.F ht⟩) hS.2.2 dX12_sitting_19

set_option maxHeartbeats 4000000 in
set_option maxRecDepth 100000 in
theorem c_X12_term (l : Launch) (D : va_G) (t : Nat → ClassId) (b : Nat → Nat) : Met l yX12_term (wd yX12_term cX12_term 3 (some .int)) (RM 3 0 0) (PreP D (TY t) [.ref (b 0)] [(b 0, .inr (12, [.int 0, .ref (b 1), .ref (b 2), .ref (b 3), .ref (b 4), .int 0, .ref (b 5), .int 0, .int 0, .int 0, .int 0, .int 0, .int 0, .int (-1), .ref (b 6), .int 0, .ref (b 7), .int 0, .int (-1), .int 0, .ref (b 8), .int 0, .ref (b 9), .int 0, .ref (b 10), .ref (b 11), .ref (b 12), .int 0, .int 0, .int 0, .ref (b 13), .ref (b 14), .ref (b 15), .int 0, .int 0, .int 0, .ref (b 16), .ref (b 17), .ref (b 18), .ref (b 19)])), (b 1, .inl (t 0, 841, .inl (fun _ => 0)))]) (QI (-2)) 0 0 NoF := by
  refine Met.ofW (cc := cX12_term) (maxL := 3) (ret := (some .int)) (by decide) rfl ?_
  intro p e s m args below meth c s₁ B hml hv
  obtain ⟨rfl, hP, hK, hN⟩ := hv
  have hx := B.exec
  have hb := B.bytes
  have hr := B.returns
  have hts : ∀ w ∈ TB, w.before _ s = true := fun w h => atoms_spec (ws := wd yX12_term cX12_term 3 (some .int)) B.pre w (List.mem_cons_of_mem _ h)
  have hown : s.vm.findClass RX12 = some m.cls := findClass_of_methodNamed B.named
  have hlocks := B.notSynchronized
  have hF : CallFix p m c cX12_term 3 s _ TB RX12 := ⟨hx, hb, hml, hown, hts⟩
  have hl := lv_entry ([.ref (b 0)]) (n := 3) (Nat.le_of_ble_eq_true rfl)
  rw [lg_entry_eq]
  generalize (lg_sl ([.ref (b 0)]) ++ List.replicate (3 - (lg_sl ([.ref (b 0)])).length) Slot.unset).toArray = ls at hl ⊢
  have hl : lv_has ls 3 [(0, .ref (b 0))] := hl
  have hS : va_S NoF s.heap s.heap [] := va_S.rf
  have hP : va_P D classes [(b 0, .inr (12, [.int 0, .ref (b 1), .ref (b 2), .ref (b 3), .ref (b 4), .int 0, .ref (b 5), .int 0, .int 0, .int 0, .int 0, .int 0, .int 0, .int (-1), .ref (b 6), .int 0, .ref (b 7), .int 0, .int (-1), .int 0, .ref (b 8), .int 0, .ref (b 9), .int 0, .ref (b 10), .ref (b 11), .ref (b 12), .int 0, .int 0, .int 0, .ref (b 13), .ref (b 14), .ref (b 15), .int 0, .int 0, .int 0, .ref (b 16), .ref (b 17), .ref (b 18), .ref (b 19)])), (b 1, .inl (t 0, 841, .inl (fun _ => 0)))] s.heap := hP
  refine lv_aload_n hx hb dX12_term_0 rfl (lv_at hl 0 rfl) ?_
  refine x_pV hF (c_X12_isChamber l D t b) m_1766 m_1768 m_s81 m_13 m_1769 hd_X12_isChamber ⟨Nat.le_of_ble_eq_true rfl, Nat.le_of_ble_eq_true rfl⟩ hK hN hP hS [0, 1] rfl 0 (ci := 12) rfl rfl rfl hl.1 rfl (Nat.le_of_ble_eq_true rfl) dX12_term_1 ⟨Nat.zero_le _, Nat.zero_le _⟩ (fun H locs hP hS => ?_)
  refine lv_if_ne (tgt := 10) hx hb dX12_term_4 (by decide) (fun c9 => absurd c9 (by decide)) (fun _ => ?_)
  refine lv_bipush (v := (-2)) hx hb dX12_term_7 (by decide) ?_
  exact W.iret (v := (-2)) hx hb hr (fun t9 ht hW => ⟨⟨(-2), (), rfl, rfl, trivial⟩, hS.F ht⟩) hS.2.2 dX12_term_9

set_option maxHeartbeats 4000000 in
set_option maxRecDepth 100000 in
theorem c_X12_undo (l : Launch) (D : va_G) (t : Nat → ClassId) (b : Nat → Nat) : Met l yX12_undo (wd yX12_undo cX12_undo 3 (some .int)) (RM 3 0 0) (PreP D (TY t) [.ref (b 0)] [(b 0, .inr (12, [.int 0, .ref (b 1), .ref (b 2), .ref (b 3), .ref (b 4), .int 0, .ref (b 5), .int 0, .int 0, .int 0, .int 0, .int 0, .int 0, .int (-1), .ref (b 6), .int 0, .ref (b 7), .int 0, .int (-1), .int 0, .ref (b 8), .int 0, .ref (b 9), .int 0, .ref (b 10), .ref (b 11), .ref (b 12), .int 0, .int 0, .int 0, .ref (b 13), .ref (b 14), .ref (b 15), .int 0, .int 0, .int 0, .ref (b 16), .ref (b 17), .ref (b 18), .ref (b 19)])), (b 1, .inl (t 0, 841, .inl (fun _ => 0)))]) (QI (-2)) 0 0 NoF := by
  refine Met.ofW (cc := cX12_undo) (maxL := 3) (ret := (some .int)) (by decide) rfl ?_
  intro p e s m args below meth c s₁ B hml hv
  obtain ⟨rfl, hP, hK, hN⟩ := hv
  have hx := B.exec
  have hb := B.bytes
  have hr := B.returns
  have hts : ∀ w ∈ TB, w.before _ s = true := fun w h => atoms_spec (ws := wd yX12_undo cX12_undo 3 (some .int)) B.pre w (List.mem_cons_of_mem _ h)
  have hown : s.vm.findClass RX12 = some m.cls := findClass_of_methodNamed B.named
  have hlocks := B.notSynchronized
  have hF : CallFix p m c cX12_undo 3 s _ TB RX12 := ⟨hx, hb, hml, hown, hts⟩
  have hl := lv_entry ([.ref (b 0)]) (n := 3) (Nat.le_of_ble_eq_true rfl)
  rw [lg_entry_eq]
  generalize (lg_sl ([.ref (b 0)]) ++ List.replicate (3 - (lg_sl ([.ref (b 0)])).length) Slot.unset).toArray = ls at hl ⊢
  have hl : lv_has ls 3 [(0, .ref (b 0))] := hl
  have hS : va_S NoF s.heap s.heap [] := va_S.rf
  have hP : va_P D classes [(b 0, .inr (12, [.int 0, .ref (b 1), .ref (b 2), .ref (b 3), .ref (b 4), .int 0, .ref (b 5), .int 0, .int 0, .int 0, .int 0, .int 0, .int 0, .int (-1), .ref (b 6), .int 0, .ref (b 7), .int 0, .int (-1), .int 0, .ref (b 8), .int 0, .ref (b 9), .int 0, .ref (b 10), .ref (b 11), .ref (b 12), .int 0, .int 0, .int 0, .ref (b 13), .ref (b 14), .ref (b 15), .int 0, .int 0, .int 0, .ref (b 16), .ref (b 17), .ref (b 18), .ref (b 19)])), (b 1, .inl (t 0, 841, .inl (fun _ => 0)))] s.heap := hP
  refine lv_aload_n hx hb dX12_undo_0 rfl (lv_at hl 0 rfl) ?_
  refine x_pV hF (c_X12_isChamber l D t b) m_1766 m_1768 m_s81 m_13 m_1769 hd_X12_isChamber ⟨Nat.le_of_ble_eq_true rfl, Nat.le_of_ble_eq_true rfl⟩ hK hN hP hS [0, 1] rfl 0 (ci := 12) rfl rfl rfl hl.1 rfl (Nat.le_of_ble_eq_true rfl) dX12_undo_1 ⟨Nat.zero_le _, Nat.zero_le _⟩ (fun H locs hP hS => ?_)
  refine lv_if_ne (tgt := 10) hx hb dX12_undo_4 (by decide) (fun c9 => absurd c9 (by decide)) (fun _ => ?_)
  refine lv_bipush (v := (-2)) hx hb dX12_undo_7 (by decide) ?_
  exact W.iret (v := (-2)) hx hb hr (fun t9 ht hW => ⟨⟨(-2), (), rfl, rfl, trivial⟩, hS.F ht⟩) hS.2.2 dX12_undo_9

set_option maxHeartbeats 4000000 in
set_option maxRecDepth 100000 in
theorem c_X12_led (l : Launch) (D : va_G) (t : Nat → ClassId) (b : Nat → Nat) (x : Int32) : Met l yX12_led (wd yX12_led cX12_led 2 (some .int)) (RM 3 0 0) (PreP D (TY t) [.ref (b 0), .int x] [(b 0, .inr (12, [.int 0, .ref (b 1), .ref (b 2), .ref (b 3), .ref (b 4), .int 0, .ref (b 5), .int 0, .int 0, .int 0, .int 0, .int 0, .int 0, .int (-1), .ref (b 6), .int 0, .ref (b 7), .int 0, .int (-1), .int 0, .ref (b 8), .int 0, .ref (b 9), .int 0, .ref (b 10), .ref (b 11), .ref (b 12), .int 0, .int 0, .int 0, .ref (b 13), .ref (b 14), .ref (b 15), .int 0, .int 0, .int 0, .ref (b 16), .ref (b 17), .ref (b 18), .ref (b 19)])), (b 1, .inl (t 0, 841, .inl (fun _ => 0)))]) (QI (-2)) 0 0 NoF := by
  refine Met.ofW (cc := cX12_led) (maxL := 2) (ret := (some .int)) (by decide) rfl ?_
  intro p e s m args below meth c s₁ B hml hv
  obtain ⟨rfl, hP, hK, hN⟩ := hv
  have hx := B.exec
  have hb := B.bytes
  have hr := B.returns
  have hts : ∀ w ∈ TB, w.before _ s = true := fun w h => atoms_spec (ws := wd yX12_led cX12_led 2 (some .int)) B.pre w (List.mem_cons_of_mem _ h)
  have hown : s.vm.findClass RX12 = some m.cls := findClass_of_methodNamed B.named
  have hlocks := B.notSynchronized
  have hF : CallFix p m c cX12_led 2 s _ TB RX12 := ⟨hx, hb, hml, hown, hts⟩
  have hl := lv_entry ([.ref (b 0), .int x]) (n := 2) (Nat.le_of_ble_eq_true rfl)
  rw [lg_entry_eq]
  generalize (lg_sl ([.ref (b 0), .int x]) ++ List.replicate (2 - (lg_sl ([.ref (b 0), .int x])).length) Slot.unset).toArray = ls at hl ⊢
  have hl : lv_has ls 2 [(0, .ref (b 0)), (1, .int x)] := hl
  have hS : va_S NoF s.heap s.heap [] := va_S.rf
  have hP : va_P D classes [(b 0, .inr (12, [.int 0, .ref (b 1), .ref (b 2), .ref (b 3), .ref (b 4), .int 0, .ref (b 5), .int 0, .int 0, .int 0, .int 0, .int 0, .int 0, .int (-1), .ref (b 6), .int 0, .ref (b 7), .int 0, .int (-1), .int 0, .ref (b 8), .int 0, .ref (b 9), .int 0, .ref (b 10), .ref (b 11), .ref (b 12), .int 0, .int 0, .int 0, .ref (b 13), .ref (b 14), .ref (b 15), .int 0, .int 0, .int 0, .ref (b 16), .ref (b 17), .ref (b 18), .ref (b 19)])), (b 1, .inl (t 0, 841, .inl (fun _ => 0)))] s.heap := hP
  refine lv_aload_n hx hb dX12_led_0 rfl (lv_at hl 0 rfl) ?_
  refine x_pV hF (c_X12_isChamber l D t b) m_1766 m_1768 m_s81 m_13 m_1769 hd_X12_isChamber ⟨Nat.le_of_ble_eq_true rfl, Nat.le_of_ble_eq_true rfl⟩ hK hN hP hS [0, 1] rfl 0 (ci := 12) rfl rfl rfl hl.1 rfl (Nat.le_of_ble_eq_true rfl) dX12_led_1 ⟨Nat.zero_le _, Nat.zero_le _⟩ (fun H locs hP hS => ?_)
  refine lv_if_ne (tgt := 12) hx hb dX12_led_4 (by decide) (fun c9 => absurd c9 (by decide)) (fun _ => ?_)
  refine lv_bipush (v := (-2)) hx hb dX12_led_7 (by decide) ?_
  refine lv_goto (tgt := 47) hx hb dX12_led_9 (by decide) ?_
  exact W.iret (v := (-2)) hx hb hr (fun t9 ht hW => ⟨⟨(-2), (), rfl, rfl, trivial⟩, hS.F ht⟩) hS.2.2 dX12_led_47

set_option maxHeartbeats 4000000 in
set_option maxRecDepth 100000 in
theorem c_X12_dies (l : Launch) (D : va_G) (t : Nat → ClassId) (b : Nat → Nat) : Met l yX12_dies (wd yX12_dies cX12_dies 5 (some .int)) (RM 3 0 0) (PreP D (TY t) [.ref (b 0)] [(b 0, .inr (12, [.int 0, .ref (b 1), .ref (b 2), .ref (b 3), .ref (b 4), .int 0, .ref (b 5), .int 0, .int 0, .int 0, .int 0, .int 0, .int 0, .int (-1), .ref (b 6), .int 0, .ref (b 7), .int 0, .int (-1), .int 0, .ref (b 8), .int 0, .ref (b 9), .int 0, .ref (b 10), .ref (b 11), .ref (b 12), .int 0, .int 0, .int 0, .ref (b 13), .ref (b 14), .ref (b 15), .int 0, .int 0, .int 0, .ref (b 16), .ref (b 17), .ref (b 18), .ref (b 19)])), (b 1, .inl (t 0, 841, .inl (fun _ => 0)))]) (QI (-2)) 0 0 NoF := by
  refine Met.ofW (cc := cX12_dies) (maxL := 5) (ret := (some .int)) (by decide) rfl ?_
  intro p e s m args below meth c s₁ B hml hv
  obtain ⟨rfl, hP, hK, hN⟩ := hv
  have hx := B.exec
  have hb := B.bytes
  have hr := B.returns
  have hts : ∀ w ∈ TB, w.before _ s = true := fun w h => atoms_spec (ws := wd yX12_dies cX12_dies 5 (some .int)) B.pre w (List.mem_cons_of_mem _ h)
  have hown : s.vm.findClass RX12 = some m.cls := findClass_of_methodNamed B.named
  have hlocks := B.notSynchronized
  have hF : CallFix p m c cX12_dies 5 s _ TB RX12 := ⟨hx, hb, hml, hown, hts⟩
  have hl := lv_entry ([.ref (b 0)]) (n := 5) (Nat.le_of_ble_eq_true rfl)
  rw [lg_entry_eq]
  generalize (lg_sl ([.ref (b 0)]) ++ List.replicate (5 - (lg_sl ([.ref (b 0)])).length) Slot.unset).toArray = ls at hl ⊢
  have hl : lv_has ls 5 [(0, .ref (b 0))] := hl
  have hS : va_S NoF s.heap s.heap [] := va_S.rf
  have hP : va_P D classes [(b 0, .inr (12, [.int 0, .ref (b 1), .ref (b 2), .ref (b 3), .ref (b 4), .int 0, .ref (b 5), .int 0, .int 0, .int 0, .int 0, .int 0, .int 0, .int (-1), .ref (b 6), .int 0, .ref (b 7), .int 0, .int (-1), .int 0, .ref (b 8), .int 0, .ref (b 9), .int 0, .ref (b 10), .ref (b 11), .ref (b 12), .int 0, .int 0, .int 0, .ref (b 13), .ref (b 14), .ref (b 15), .int 0, .int 0, .int 0, .ref (b 16), .ref (b 17), .ref (b 18), .ref (b 19)])), (b 1, .inl (t 0, 841, .inl (fun _ => 0)))] s.heap := hP
  refine lv_aload_n hx hb dX12_dies_0 rfl (lv_at hl 0 rfl) ?_
  refine x_pV hF (c_X12_isChamber l D t b) m_1766 m_1768 m_s81 m_13 m_1769 hd_X12_isChamber ⟨Nat.le_of_ble_eq_true rfl, Nat.le_of_ble_eq_true rfl⟩ hK hN hP hS [0, 1] rfl 0 (ci := 12) rfl rfl rfl hl.1 rfl (Nat.le_of_ble_eq_true rfl) dX12_dies_1 ⟨Nat.zero_le _, Nat.zero_le _⟩ (fun H locs hP hS => ?_)
  refine lv_if_ne (tgt := 10) hx hb dX12_dies_4 (by decide) (fun c9 => absurd c9 (by decide)) (fun _ => ?_)
  refine lv_bipush (v := (-2)) hx hb dX12_dies_7 (by decide) ?_
  exact W.iret (v := (-2)) hx hb hr (fun t9 ht hW => ⟨⟨(-2), (), rfl, rfl, trivial⟩, hS.F ht⟩) hS.2.2 dX12_dies_9

set_option maxHeartbeats 4000000 in
set_option maxRecDepth 100000 in
theorem c_X12_said (l : Launch) (D : va_G) (t : Nat → ClassId) (b : Nat → Nat) (x : Int32) : Met l yX12_said (wd yX12_said cX12_said 2 (some .int)) (RM 3 0 0) (PreP D (TY t) [.ref (b 0), .int x] [(b 0, .inr (12, [.int 0, .ref (b 1), .ref (b 2), .ref (b 3), .ref (b 4), .int 0, .ref (b 5), .int 0, .int 0, .int 0, .int 0, .int 0, .int 0, .int (-1), .ref (b 6), .int 0, .ref (b 7), .int 0, .int (-1), .int 0, .ref (b 8), .int 0, .ref (b 9), .int 0, .ref (b 10), .ref (b 11), .ref (b 12), .int 0, .int 0, .int 0, .ref (b 13), .ref (b 14), .ref (b 15), .int 0, .int 0, .int 0, .ref (b 16), .ref (b 17), .ref (b 18), .ref (b 19)])), (b 1, .inl (t 0, 841, .inl (fun _ => 0)))]) (QI (-2)) 0 0 NoF := by
  refine Met.ofW (cc := cX12_said) (maxL := 2) (ret := (some .int)) (by decide) rfl ?_
  intro p e s m args below meth c s₁ B hml hv
  obtain ⟨rfl, hP, hK, hN⟩ := hv
  have hx := B.exec
  have hb := B.bytes
  have hr := B.returns
  have hts : ∀ w ∈ TB, w.before _ s = true := fun w h => atoms_spec (ws := wd yX12_said cX12_said 2 (some .int)) B.pre w (List.mem_cons_of_mem _ h)
  have hown : s.vm.findClass RX12 = some m.cls := findClass_of_methodNamed B.named
  have hlocks := B.notSynchronized
  have hF : CallFix p m c cX12_said 2 s _ TB RX12 := ⟨hx, hb, hml, hown, hts⟩
  have hl := lv_entry ([.ref (b 0), .int x]) (n := 2) (Nat.le_of_ble_eq_true rfl)
  rw [lg_entry_eq]
  generalize (lg_sl ([.ref (b 0), .int x]) ++ List.replicate (2 - (lg_sl ([.ref (b 0), .int x])).length) Slot.unset).toArray = ls at hl ⊢
  have hl : lv_has ls 2 [(0, .ref (b 0)), (1, .int x)] := hl
  have hS : va_S NoF s.heap s.heap [] := va_S.rf
  have hP : va_P D classes [(b 0, .inr (12, [.int 0, .ref (b 1), .ref (b 2), .ref (b 3), .ref (b 4), .int 0, .ref (b 5), .int 0, .int 0, .int 0, .int 0, .int 0, .int 0, .int (-1), .ref (b 6), .int 0, .ref (b 7), .int 0, .int (-1), .int 0, .ref (b 8), .int 0, .ref (b 9), .int 0, .ref (b 10), .ref (b 11), .ref (b 12), .int 0, .int 0, .int 0, .ref (b 13), .ref (b 14), .ref (b 15), .int 0, .int 0, .int 0, .ref (b 16), .ref (b 17), .ref (b 18), .ref (b 19)])), (b 1, .inl (t 0, 841, .inl (fun _ => 0)))] s.heap := hP
  refine lv_aload_n hx hb dX12_said_0 rfl (lv_at hl 0 rfl) ?_
  refine lv_iload_n hx hb dX12_said_1 rfl (lv_at hl 1 rfl) ?_
  refine lv_i2l hx hb dX12_said_2 rfl ?_
  refine x_pV hF (c_X12_isMeaning l D t b x.toInt64) m_1822 m_1824 m_s85 m_13 m_1825 hd_X12_isMeaning ⟨Nat.le_of_ble_eq_true rfl, Nat.le_of_ble_eq_true rfl⟩ hK hN hP hS [0, 1] rfl 0 (ci := 12) rfl rfl rfl hl.1 rfl (Nat.le_of_ble_eq_true rfl) dX12_said_3 ⟨Nat.zero_le _, Nat.zero_le _⟩ (fun H locs hP hS => ?_)
  refine lv_if_ne (tgt := 12) hx hb dX12_said_6 (by decide) (fun c9 => absurd c9 (by decide)) (fun _ => ?_)
  refine lv_bipush (v := (-2)) hx hb dX12_said_9 (by decide) ?_
  exact W.iret (v := (-2)) hx hb hr (fun t9 ht hW => ⟨⟨(-2), (), rfl, rfl, trivial⟩, hS.F ht⟩) hS.2.2 dX12_said_11

set_option maxHeartbeats 4000000 in
set_option maxRecDepth 100000 in
theorem c_X12_least (l : Launch) (D : va_G) (t : Nat → ClassId) (b : Nat → Nat) (x : Int32) : Met l yX12_least (wd yX12_least cX12_least 2 (some .int)) (RM 3 0 0) (PreP D (TY t) [.ref (b 0), .int x] [(b 0, .inr (12, [.int 0, .ref (b 1), .ref (b 2), .ref (b 3), .ref (b 4), .int 0, .ref (b 5), .int 0, .int 0, .int 0, .int 0, .int 0, .int 0, .int (-1), .ref (b 6), .int 0, .ref (b 7), .int 0, .int (-1), .int 0, .ref (b 8), .int 0, .ref (b 9), .int 0, .ref (b 10), .ref (b 11), .ref (b 12), .int 0, .int 0, .int 0, .ref (b 13), .ref (b 14), .ref (b 15), .int 0, .int 0, .int 0, .ref (b 16), .ref (b 17), .ref (b 18), .ref (b 19)])), (b 1, .inl (t 0, 841, .inl (fun _ => 0)))]) (QI (-2)) 0 0 NoF := by
  refine Met.ofW (cc := cX12_least) (maxL := 2) (ret := (some .int)) (by decide) rfl ?_
  intro p e s m args below meth c s₁ B hml hv
  obtain ⟨rfl, hP, hK, hN⟩ := hv
  have hx := B.exec
  have hb := B.bytes
  have hr := B.returns
  have hts : ∀ w ∈ TB, w.before _ s = true := fun w h => atoms_spec (ws := wd yX12_least cX12_least 2 (some .int)) B.pre w (List.mem_cons_of_mem _ h)
  have hown : s.vm.findClass RX12 = some m.cls := findClass_of_methodNamed B.named
  have hlocks := B.notSynchronized
  have hF : CallFix p m c cX12_least 2 s _ TB RX12 := ⟨hx, hb, hml, hown, hts⟩
  have hl := lv_entry ([.ref (b 0), .int x]) (n := 2) (Nat.le_of_ble_eq_true rfl)
  rw [lg_entry_eq]
  generalize (lg_sl ([.ref (b 0), .int x]) ++ List.replicate (2 - (lg_sl ([.ref (b 0), .int x])).length) Slot.unset).toArray = ls at hl ⊢
  have hl : lv_has ls 2 [(0, .ref (b 0)), (1, .int x)] := hl
  have hS : va_S NoF s.heap s.heap [] := va_S.rf
  have hP : va_P D classes [(b 0, .inr (12, [.int 0, .ref (b 1), .ref (b 2), .ref (b 3), .ref (b 4), .int 0, .ref (b 5), .int 0, .int 0, .int 0, .int 0, .int 0, .int 0, .int (-1), .ref (b 6), .int 0, .ref (b 7), .int 0, .int (-1), .int 0, .ref (b 8), .int 0, .ref (b 9), .int 0, .ref (b 10), .ref (b 11), .ref (b 12), .int 0, .int 0, .int 0, .ref (b 13), .ref (b 14), .ref (b 15), .int 0, .int 0, .int 0, .ref (b 16), .ref (b 17), .ref (b 18), .ref (b 19)])), (b 1, .inl (t 0, 841, .inl (fun _ => 0)))] s.heap := hP
  refine lv_aload_n hx hb dX12_least_0 rfl (lv_at hl 0 rfl) ?_
  refine lv_iload_n hx hb dX12_least_1 rfl (lv_at hl 1 rfl) ?_
  refine lv_i2l hx hb dX12_least_2 rfl ?_
  refine x_pV hF (c_X12_isMeaning l D t b x.toInt64) m_1822 m_1824 m_s85 m_13 m_1825 hd_X12_isMeaning ⟨Nat.le_of_ble_eq_true rfl, Nat.le_of_ble_eq_true rfl⟩ hK hN hP hS [0, 1] rfl 0 (ci := 12) rfl rfl rfl hl.1 rfl (Nat.le_of_ble_eq_true rfl) dX12_least_3 ⟨Nat.zero_le _, Nat.zero_le _⟩ (fun H locs hP hS => ?_)
  refine lv_if_ne (tgt := 12) hx hb dX12_least_6 (by decide) (fun c9 => absurd c9 (by decide)) (fun _ => ?_)
  refine lv_bipush (v := (-2)) hx hb dX12_least_9 (by decide) ?_
  exact W.iret (v := (-2)) hx hb hr (fun t9 ht hW => ⟨⟨(-2), (), rfl, rfl, trivial⟩, hS.F ht⟩) hS.2.2 dX12_least_11

set_option maxHeartbeats 4000000 in
set_option maxRecDepth 100000 in
theorem c_X12_round (l : Launch) (D : va_G) (t : Nat → ClassId) (b : Nat → Nat) (x : Int32) : Met l yX12_round (wd yX12_round cX12_round 3 (some .int)) (RM 3 0 0) (PreP D (TY t) [.ref (b 0), .int x] [(b 0, .inr (12, [.int 0, .ref (b 1), .ref (b 2), .ref (b 3), .ref (b 4), .int 0, .ref (b 5), .int 0, .int 0, .int 0, .int 0, .int 0, .int 0, .int (-1), .ref (b 6), .int 0, .ref (b 7), .int 0, .int (-1), .int 0, .ref (b 8), .int 0, .ref (b 9), .int 0, .ref (b 10), .ref (b 11), .ref (b 12), .int 0, .int 0, .int 0, .ref (b 13), .ref (b 14), .ref (b 15), .int 0, .int 0, .int 0, .ref (b 16), .ref (b 17), .ref (b 18), .ref (b 19)])), (b 1, .inl (t 0, 841, .inl (fun _ => 0)))]) (QI (-2)) 0 0 NoF := by
  refine Met.ofW (cc := cX12_round) (maxL := 3) (ret := (some .int)) (by decide) rfl ?_
  intro p e s m args below meth c s₁ B hml hv
  obtain ⟨rfl, hP, hK, hN⟩ := hv
  have hx := B.exec
  have hb := B.bytes
  have hr := B.returns
  have hts : ∀ w ∈ TB, w.before _ s = true := fun w h => atoms_spec (ws := wd yX12_round cX12_round 3 (some .int)) B.pre w (List.mem_cons_of_mem _ h)
  have hown : s.vm.findClass RX12 = some m.cls := findClass_of_methodNamed B.named
  have hlocks := B.notSynchronized
  have hF : CallFix p m c cX12_round 3 s _ TB RX12 := ⟨hx, hb, hml, hown, hts⟩
  have hl := lv_entry ([.ref (b 0), .int x]) (n := 3) (Nat.le_of_ble_eq_true rfl)
  rw [lg_entry_eq]
  generalize (lg_sl ([.ref (b 0), .int x]) ++ List.replicate (3 - (lg_sl ([.ref (b 0), .int x])).length) Slot.unset).toArray = ls at hl ⊢
  have hl : lv_has ls 3 [(0, .ref (b 0)), (1, .int x)] := hl
  have hS : va_S NoF s.heap s.heap [] := va_S.rf
  have hP : va_P D classes [(b 0, .inr (12, [.int 0, .ref (b 1), .ref (b 2), .ref (b 3), .ref (b 4), .int 0, .ref (b 5), .int 0, .int 0, .int 0, .int 0, .int 0, .int 0, .int (-1), .ref (b 6), .int 0, .ref (b 7), .int 0, .int (-1), .int 0, .ref (b 8), .int 0, .ref (b 9), .int 0, .ref (b 10), .ref (b 11), .ref (b 12), .int 0, .int 0, .int 0, .ref (b 13), .ref (b 14), .ref (b 15), .int 0, .int 0, .int 0, .ref (b 16), .ref (b 17), .ref (b 18), .ref (b 19)])), (b 1, .inl (t 0, 841, .inl (fun _ => 0)))] s.heap := hP
  refine lv_aload_n hx hb dX12_round_0 rfl (lv_at hl 0 rfl) ?_
  refine lv_iload_n hx hb dX12_round_1 rfl (lv_at hl 1 rfl) ?_
  refine lv_i2l hx hb dX12_round_2 rfl ?_
  refine x_pV hF (c_X12_isMeaning l D t b x.toInt64) m_1822 m_1824 m_s85 m_13 m_1825 hd_X12_isMeaning ⟨Nat.le_of_ble_eq_true rfl, Nat.le_of_ble_eq_true rfl⟩ hK hN hP hS [0, 1] rfl 0 (ci := 12) rfl rfl rfl hl.1 rfl (Nat.le_of_ble_eq_true rfl) dX12_round_3 ⟨Nat.zero_le _, Nat.zero_le _⟩ (fun H locs hP hS => ?_)
  refine lv_if_ne (tgt := 12) hx hb dX12_round_6 (by decide) (fun c9 => absurd c9 (by decide)) (fun _ => ?_)
  refine lv_bipush (v := (-2)) hx hb dX12_round_9 (by decide) ?_
  exact W.iret (v := (-2)) hx hb hr (fun t9 ht hW => ⟨⟨(-2), (), rfl, rfl, trivial⟩, hS.F ht⟩) hS.2.2 dX12_round_11

set_option maxHeartbeats 4000000 in
set_option maxRecDepth 100000 in
theorem c_X12_dumb (l : Launch) (D : va_G) (t : Nat → ClassId) (b : Nat → Nat) : Met l yX12_dumb (wd yX12_dumb cX12_dumb 1 (some .int)) (RM 3 0 0) (PreP D (TY t) [.ref (b 0)] [(b 0, .inr (12, [.int 0, .ref (b 1), .ref (b 2), .ref (b 3), .ref (b 4), .int 0, .ref (b 5), .int 0, .int 0, .int 0, .int 0, .int 0, .int 0, .int (-1), .ref (b 6), .int 0, .ref (b 7), .int 0, .int (-1), .int 0, .ref (b 8), .int 0, .ref (b 9), .int 0, .ref (b 10), .ref (b 11), .ref (b 12), .int 0, .int 0, .int 0, .ref (b 13), .ref (b 14), .ref (b 15), .int 0, .int 0, .int 0, .ref (b 16), .ref (b 17), .ref (b 18), .ref (b 19)])), (b 1, .inl (t 0, 841, .inl (fun _ => 0)))]) (QI (-2)) 0 0 NoF := by
  refine Met.ofW (cc := cX12_dumb) (maxL := 1) (ret := (some .int)) (by decide) rfl ?_
  intro p e s m args below meth c s₁ B hml hv
  obtain ⟨rfl, hP, hK, hN⟩ := hv
  have hx := B.exec
  have hb := B.bytes
  have hr := B.returns
  have hts : ∀ w ∈ TB, w.before _ s = true := fun w h => atoms_spec (ws := wd yX12_dumb cX12_dumb 1 (some .int)) B.pre w (List.mem_cons_of_mem _ h)
  have hown : s.vm.findClass RX12 = some m.cls := findClass_of_methodNamed B.named
  have hlocks := B.notSynchronized
  have hF : CallFix p m c cX12_dumb 1 s _ TB RX12 := ⟨hx, hb, hml, hown, hts⟩
  have hl := lv_entry ([.ref (b 0)]) (n := 1) (Nat.le_of_ble_eq_true rfl)
  rw [lg_entry_eq]
  generalize (lg_sl ([.ref (b 0)]) ++ List.replicate (1 - (lg_sl ([.ref (b 0)])).length) Slot.unset).toArray = ls at hl ⊢
  have hl : lv_has ls 1 [(0, .ref (b 0))] := hl
  have hS : va_S NoF s.heap s.heap [] := va_S.rf
  have hP : va_P D classes [(b 0, .inr (12, [.int 0, .ref (b 1), .ref (b 2), .ref (b 3), .ref (b 4), .int 0, .ref (b 5), .int 0, .int 0, .int 0, .int 0, .int 0, .int 0, .int (-1), .ref (b 6), .int 0, .ref (b 7), .int 0, .int (-1), .int 0, .ref (b 8), .int 0, .ref (b 9), .int 0, .ref (b 10), .ref (b 11), .ref (b 12), .int 0, .int 0, .int 0, .ref (b 13), .ref (b 14), .ref (b 15), .int 0, .int 0, .int 0, .ref (b 16), .ref (b 17), .ref (b 18), .ref (b 19)])), (b 1, .inl (t 0, 841, .inl (fun _ => 0)))] s.heap := hP
  refine lv_aload_n hx hb dX12_dumb_0 rfl (lv_at hl 0 rfl) ?_
  refine x_pV hF (c_X12_isChamber l D t b) m_1766 m_1768 m_s81 m_13 m_1769 hd_X12_isChamber ⟨Nat.le_of_ble_eq_true rfl, Nat.le_of_ble_eq_true rfl⟩ hK hN hP hS [0, 1] rfl 0 (ci := 12) rfl rfl rfl hl.1 rfl (Nat.le_of_ble_eq_true rfl) dX12_dumb_1 ⟨Nat.zero_le _, Nat.zero_le _⟩ (fun H locs hP hS => ?_)
  refine lv_if_ne (tgt := 10) hx hb dX12_dumb_4 (by decide) (fun c9 => absurd c9 (by decide)) (fun _ => ?_)
  refine lv_bipush (v := (-2)) hx hb dX12_dumb_7 (by decide) ?_
  exact W.iret (v := (-2)) hx hb hr (fun t9 ht hW => ⟨⟨(-2), (), rfl, rfl, trivial⟩, hS.F ht⟩) hS.2.2 dX12_dumb_9

set_option maxHeartbeats 4000000 in
set_option maxRecDepth 100000 in
theorem c_X12_cost (l : Launch) (D : va_G) (t : Nat → ClassId) (b : Nat → Nat) (x : Int32) : Met l yX12_cost (wd yX12_cost cX12_cost 2 (some .int)) (RM 3 0 0) (PreP D (TY t) [.ref (b 0), .int x] [(b 0, .inr (12, [.int 0, .ref (b 1), .ref (b 2), .ref (b 3), .ref (b 4), .int 0, .ref (b 5), .int 0, .int 0, .int 0, .int 0, .int 0, .int 0, .int (-1), .ref (b 6), .int 0, .ref (b 7), .int 0, .int (-1), .int 0, .ref (b 8), .int 0, .ref (b 9), .int 0, .ref (b 10), .ref (b 11), .ref (b 12), .int 0, .int 0, .int 0, .ref (b 13), .ref (b 14), .ref (b 15), .int 0, .int 0, .int 0, .ref (b 16), .ref (b 17), .ref (b 18), .ref (b 19)])), (b 1, .inl (t 0, 841, .inl (fun _ => 0)))]) (QI (-2)) 0 0 NoF := by
  refine Met.ofW (cc := cX12_cost) (maxL := 2) (ret := (some .int)) (by decide) rfl ?_
  intro p e s m args below meth c s₁ B hml hv
  obtain ⟨rfl, hP, hK, hN⟩ := hv
  have hx := B.exec
  have hb := B.bytes
  have hr := B.returns
  have hts : ∀ w ∈ TB, w.before _ s = true := fun w h => atoms_spec (ws := wd yX12_cost cX12_cost 2 (some .int)) B.pre w (List.mem_cons_of_mem _ h)
  have hown : s.vm.findClass RX12 = some m.cls := findClass_of_methodNamed B.named
  have hlocks := B.notSynchronized
  have hF : CallFix p m c cX12_cost 2 s _ TB RX12 := ⟨hx, hb, hml, hown, hts⟩
  have hl := lv_entry ([.ref (b 0), .int x]) (n := 2) (Nat.le_of_ble_eq_true rfl)
  rw [lg_entry_eq]
  generalize (lg_sl ([.ref (b 0), .int x]) ++ List.replicate (2 - (lg_sl ([.ref (b 0), .int x])).length) Slot.unset).toArray = ls at hl ⊢
  have hl : lv_has ls 2 [(0, .ref (b 0)), (1, .int x)] := hl
  have hS : va_S NoF s.heap s.heap [] := va_S.rf
  have hP : va_P D classes [(b 0, .inr (12, [.int 0, .ref (b 1), .ref (b 2), .ref (b 3), .ref (b 4), .int 0, .ref (b 5), .int 0, .int 0, .int 0, .int 0, .int 0, .int 0, .int (-1), .ref (b 6), .int 0, .ref (b 7), .int 0, .int (-1), .int 0, .ref (b 8), .int 0, .ref (b 9), .int 0, .ref (b 10), .ref (b 11), .ref (b 12), .int 0, .int 0, .int 0, .ref (b 13), .ref (b 14), .ref (b 15), .int 0, .int 0, .int 0, .ref (b 16), .ref (b 17), .ref (b 18), .ref (b 19)])), (b 1, .inl (t 0, 841, .inl (fun _ => 0)))] s.heap := hP
  refine lv_aload_n hx hb dX12_cost_0 rfl (lv_at hl 0 rfl) ?_
  refine lv_iload_n hx hb dX12_cost_1 rfl (lv_at hl 1 rfl) ?_
  refine x_pV hF (c_X12_isSpeaker l D t b x) m_1623 m_1625 m_s59 m_13 m_1626 hd_X12_isSpeaker ⟨Nat.le_of_ble_eq_true rfl, Nat.le_of_ble_eq_true rfl⟩ hK hN hP hS [0, 1] rfl 0 (ci := 12) rfl rfl rfl hl.1 rfl (Nat.le_of_ble_eq_true rfl) dX12_cost_2 ⟨Nat.zero_le _, Nat.zero_le _⟩ (fun H locs hP hS => ?_)
  refine lv_if_ne (tgt := 11) hx hb dX12_cost_5 (by decide) (fun c9 => absurd c9 (by decide)) (fun _ => ?_)
  refine lv_bipush (v := (-2)) hx hb dX12_cost_8 (by decide) ?_
  exact W.iret (v := (-2)) hx hb hr (fun t9 ht hW => ⟨⟨(-2), (), rfl, rfl, trivial⟩, hS.F ht⟩) hS.2.2 dX12_cost_10

set_option maxHeartbeats 4000000 in
set_option maxRecDepth 100000 in
theorem c_X12_costs (l : Launch) (D : va_G) (t : Nat → ClassId) (b : Nat → Nat) : Met l yX12_costs (wd yX12_costs cX12_costs 1 (some .int)) (RM 3 0 0) (PreP D (TY t) [.ref (b 0)] [(b 0, .inr (12, [.int 0, .ref (b 1), .ref (b 2), .ref (b 3), .ref (b 4), .int 0, .ref (b 5), .int 0, .int 0, .int 0, .int 0, .int 0, .int 0, .int (-1), .ref (b 6), .int 0, .ref (b 7), .int 0, .int (-1), .int 0, .ref (b 8), .int 0, .ref (b 9), .int 0, .ref (b 10), .ref (b 11), .ref (b 12), .int 0, .int 0, .int 0, .ref (b 13), .ref (b 14), .ref (b 15), .int 0, .int 0, .int 0, .ref (b 16), .ref (b 17), .ref (b 18), .ref (b 19)])), (b 1, .inl (t 0, 841, .inl (fun _ => 0)))]) (QI (-2)) 0 0 NoF := by
  refine Met.ofW (cc := cX12_costs) (maxL := 1) (ret := (some .int)) (by decide) rfl ?_
  intro p e s m args below meth c s₁ B hml hv
  obtain ⟨rfl, hP, hK, hN⟩ := hv
  have hx := B.exec
  have hb := B.bytes
  have hr := B.returns
  have hts : ∀ w ∈ TB, w.before _ s = true := fun w h => atoms_spec (ws := wd yX12_costs cX12_costs 1 (some .int)) B.pre w (List.mem_cons_of_mem _ h)
  have hown : s.vm.findClass RX12 = some m.cls := findClass_of_methodNamed B.named
  have hlocks := B.notSynchronized
  have hF : CallFix p m c cX12_costs 1 s _ TB RX12 := ⟨hx, hb, hml, hown, hts⟩
  have hl := lv_entry ([.ref (b 0)]) (n := 1) (Nat.le_of_ble_eq_true rfl)
  rw [lg_entry_eq]
  generalize (lg_sl ([.ref (b 0)]) ++ List.replicate (1 - (lg_sl ([.ref (b 0)])).length) Slot.unset).toArray = ls at hl ⊢
  have hl : lv_has ls 1 [(0, .ref (b 0))] := hl
  have hS : va_S NoF s.heap s.heap [] := va_S.rf
  have hP : va_P D classes [(b 0, .inr (12, [.int 0, .ref (b 1), .ref (b 2), .ref (b 3), .ref (b 4), .int 0, .ref (b 5), .int 0, .int 0, .int 0, .int 0, .int 0, .int 0, .int (-1), .ref (b 6), .int 0, .ref (b 7), .int 0, .int (-1), .int 0, .ref (b 8), .int 0, .ref (b 9), .int 0, .ref (b 10), .ref (b 11), .ref (b 12), .int 0, .int 0, .int 0, .ref (b 13), .ref (b 14), .ref (b 15), .int 0, .int 0, .int 0, .ref (b 16), .ref (b 17), .ref (b 18), .ref (b 19)])), (b 1, .inl (t 0, 841, .inl (fun _ => 0)))] s.heap := hP
  refine lv_aload_n hx hb dX12_costs_0 rfl (lv_at hl 0 rfl) ?_
  refine x_pV hF (c_X12_isChamber l D t b) m_1766 m_1768 m_s81 m_13 m_1769 hd_X12_isChamber ⟨Nat.le_of_ble_eq_true rfl, Nat.le_of_ble_eq_true rfl⟩ hK hN hP hS [0, 1] rfl 0 (ci := 12) rfl rfl rfl hl.1 rfl (Nat.le_of_ble_eq_true rfl) dX12_costs_1 ⟨Nat.zero_le _, Nat.zero_le _⟩ (fun H locs hP hS => ?_)
  refine lv_if_eq (tgt := 21) hx hb dX12_costs_4 (by decide) (fun _ => ?_) (fun c9 => absurd (by decide) c9)
  refine lv_bipush (v := (-2)) hx hb dX12_costs_21 (by decide) ?_
  exact W.iret (v := (-2)) hx hb hr (fun t9 ht hW => ⟨⟨(-2), (), rfl, rfl, trivial⟩, hS.F ht⟩) hS.2.2 dX12_costs_23

set_option maxHeartbeats 4000000 in
set_option maxRecDepth 100000 in
theorem c_X12_by (l : Launch) (D : va_G) (t : Nat → ClassId) (b : Nat → Nat) (x : Int32) : Met l yX12_by (wd yX12_by cX12_by 2 (some .int)) (RM 3 0 0) (PreP D (TY t) [.ref (b 0), .int x] [(b 0, .inr (12, [.int 0, .ref (b 1), .ref (b 2), .ref (b 3), .ref (b 4), .int 0, .ref (b 5), .int 0, .int 0, .int 0, .int 0, .int 0, .int 0, .int (-1), .ref (b 6), .int 0, .ref (b 7), .int 0, .int (-1), .int 0, .ref (b 8), .int 0, .ref (b 9), .int 0, .ref (b 10), .ref (b 11), .ref (b 12), .int 0, .int 0, .int 0, .ref (b 13), .ref (b 14), .ref (b 15), .int 0, .int 0, .int 0, .ref (b 16), .ref (b 17), .ref (b 18), .ref (b 19)])), (b 1, .inl (t 0, 841, .inl (fun _ => 0)))]) (QI (-2)) 0 0 NoF := by
  refine Met.ofW (cc := cX12_by) (maxL := 2) (ret := (some .int)) (by decide) rfl ?_
  intro p e s m args below meth c s₁ B hml hv
  obtain ⟨rfl, hP, hK, hN⟩ := hv
  have hx := B.exec
  have hb := B.bytes
  have hr := B.returns
  have hts : ∀ w ∈ TB, w.before _ s = true := fun w h => atoms_spec (ws := wd yX12_by cX12_by 2 (some .int)) B.pre w (List.mem_cons_of_mem _ h)
  have hown : s.vm.findClass RX12 = some m.cls := findClass_of_methodNamed B.named
  have hlocks := B.notSynchronized
  have hF : CallFix p m c cX12_by 2 s _ TB RX12 := ⟨hx, hb, hml, hown, hts⟩
  have hl := lv_entry ([.ref (b 0), .int x]) (n := 2) (Nat.le_of_ble_eq_true rfl)
  rw [lg_entry_eq]
  generalize (lg_sl ([.ref (b 0), .int x]) ++ List.replicate (2 - (lg_sl ([.ref (b 0), .int x])).length) Slot.unset).toArray = ls at hl ⊢
  have hl : lv_has ls 2 [(0, .ref (b 0)), (1, .int x)] := hl
  have hS : va_S NoF s.heap s.heap [] := va_S.rf
  have hP : va_P D classes [(b 0, .inr (12, [.int 0, .ref (b 1), .ref (b 2), .ref (b 3), .ref (b 4), .int 0, .ref (b 5), .int 0, .int 0, .int 0, .int 0, .int 0, .int 0, .int (-1), .ref (b 6), .int 0, .ref (b 7), .int 0, .int (-1), .int 0, .ref (b 8), .int 0, .ref (b 9), .int 0, .ref (b 10), .ref (b 11), .ref (b 12), .int 0, .int 0, .int 0, .ref (b 13), .ref (b 14), .ref (b 15), .int 0, .int 0, .int 0, .ref (b 16), .ref (b 17), .ref (b 18), .ref (b 19)])), (b 1, .inl (t 0, 841, .inl (fun _ => 0)))] s.heap := hP
  refine lv_aload_n hx hb dX12_by_0 rfl (lv_at hl 0 rfl) ?_
  refine x_pV hF (c_X12_isChamber l D t b) m_1766 m_1768 m_s81 m_13 m_1769 hd_X12_isChamber ⟨Nat.le_of_ble_eq_true rfl, Nat.le_of_ble_eq_true rfl⟩ hK hN hP hS [0, 1] rfl 0 (ci := 12) rfl rfl rfl hl.1 rfl (Nat.le_of_ble_eq_true rfl) dX12_by_1 ⟨Nat.zero_le _, Nat.zero_le _⟩ (fun H locs hP hS => ?_)
  refine lv_if_eq (tgt := 29) hx hb dX12_by_4 (by decide) (fun _ => ?_) (fun c9 => absurd (by decide) c9)
  refine lv_bipush (v := (-2)) hx hb dX12_by_29 (by decide) ?_
  exact W.iret (v := (-2)) hx hb hr (fun t9 ht hW => ⟨⟨(-2), (), rfl, rfl, trivial⟩, hS.F ht⟩) hS.2.2 dX12_by_31

set_option maxHeartbeats 4000000 in
set_option maxRecDepth 100000 in
theorem c_X12_cheapest (l : Launch) (D : va_G) (t : Nat → ClassId) (b : Nat → Nat) (x : Int32) : Met l yX12_cheapest (wd yX12_cheapest cX12_cheapest 8 (some .int)) (RM 3 0 0) (PreP D (TY t) [.ref (b 0), .int x] [(b 0, .inr (12, [.int 0, .ref (b 1), .ref (b 2), .ref (b 3), .ref (b 4), .int 0, .ref (b 5), .int 0, .int 0, .int 0, .int 0, .int 0, .int 0, .int (-1), .ref (b 6), .int 0, .ref (b 7), .int 0, .int (-1), .int 0, .ref (b 8), .int 0, .ref (b 9), .int 0, .ref (b 10), .ref (b 11), .ref (b 12), .int 0, .int 0, .int 0, .ref (b 13), .ref (b 14), .ref (b 15), .int 0, .int 0, .int 0, .ref (b 16), .ref (b 17), .ref (b 18), .ref (b 19)])), (b 1, .inl (t 0, 841, .inl (fun _ => 0)))]) (QI (-2)) 0 0 NoF := by
  refine Met.ofW (cc := cX12_cheapest) (maxL := 8) (ret := (some .int)) (by decide) rfl ?_
  intro p e s m args below meth c s₁ B hml hv
  obtain ⟨rfl, hP, hK, hN⟩ := hv
  have hx := B.exec
  have hb := B.bytes
  have hr := B.returns
  have hts : ∀ w ∈ TB, w.before _ s = true := fun w h => atoms_spec (ws := wd yX12_cheapest cX12_cheapest 8 (some .int)) B.pre w (List.mem_cons_of_mem _ h)
  have hown : s.vm.findClass RX12 = some m.cls := findClass_of_methodNamed B.named
  have hlocks := B.notSynchronized
  have hF : CallFix p m c cX12_cheapest 8 s _ TB RX12 := ⟨hx, hb, hml, hown, hts⟩
  have hl := lv_entry ([.ref (b 0), .int x]) (n := 8) (Nat.le_of_ble_eq_true rfl)
  rw [lg_entry_eq]
  generalize (lg_sl ([.ref (b 0), .int x]) ++ List.replicate (8 - (lg_sl ([.ref (b 0), .int x])).length) Slot.unset).toArray = ls at hl ⊢
  have hl : lv_has ls 8 [(0, .ref (b 0)), (1, .int x)] := hl
  have hS : va_S NoF s.heap s.heap [] := va_S.rf
  have hP : va_P D classes [(b 0, .inr (12, [.int 0, .ref (b 1), .ref (b 2), .ref (b 3), .ref (b 4), .int 0, .ref (b 5), .int 0, .int 0, .int 0, .int 0, .int 0, .int 0, .int (-1), .ref (b 6), .int 0, .ref (b 7), .int 0, .int (-1), .int 0, .ref (b 8), .int 0, .ref (b 9), .int 0, .ref (b 10), .ref (b 11), .ref (b 12), .int 0, .int 0, .int 0, .ref (b 13), .ref (b 14), .ref (b 15), .int 0, .int 0, .int 0, .ref (b 16), .ref (b 17), .ref (b 18), .ref (b 19)])), (b 1, .inl (t 0, 841, .inl (fun _ => 0)))] s.heap := hP
  refine lv_aload_n hx hb dX12_cheapest_0 rfl (lv_at hl 0 rfl) ?_
  refine lv_iload_n hx hb dX12_cheapest_1 rfl (lv_at hl 1 rfl) ?_
  refine x_pV hF (c_X12_isDistrict l D t b x) m_1636 m_1638 m_s61 m_13 m_1639 hd_X12_isDistrict ⟨Nat.le_of_ble_eq_true rfl, Nat.le_of_ble_eq_true rfl⟩ hK hN hP hS [0, 1] rfl 0 (ci := 12) rfl rfl rfl hl.1 rfl (Nat.le_of_ble_eq_true rfl) dX12_cheapest_2 ⟨Nat.zero_le _, Nat.zero_le _⟩ (fun H locs hP hS => ?_)
  refine lv_if_ne (tgt := 11) hx hb dX12_cheapest_5 (by decide) (fun c9 => absurd c9 (by decide)) (fun _ => ?_)
  refine lv_bipush (v := (-2)) hx hb dX12_cheapest_8 (by decide) ?_
  exact W.iret (v := (-2)) hx hb hr (fun t9 ht hW => ⟨⟨(-2), (), rfl, rfl, trivial⟩, hS.F ht⟩) hS.2.2 dX12_cheapest_10

set_option maxHeartbeats 4000000 in
set_option maxRecDepth 100000 in
theorem c_X12_cover (l : Launch) (D : va_G) (t : Nat → ClassId) (b : Nat → Nat) (x : Int32) : Met l yX12_cover (wd yX12_cover cX12_cover 3 (some .int)) (RM 3 0 0) (PreP D (TY t) [.ref (b 0), .int x] [(b 0, .inr (12, [.int 0, .ref (b 1), .ref (b 2), .ref (b 3), .ref (b 4), .int 0, .ref (b 5), .int 0, .int 0, .int 0, .int 0, .int 0, .int 0, .int (-1), .ref (b 6), .int 0, .ref (b 7), .int 0, .int (-1), .int 0, .ref (b 8), .int 0, .ref (b 9), .int 0, .ref (b 10), .ref (b 11), .ref (b 12), .int 0, .int 0, .int 0, .ref (b 13), .ref (b 14), .ref (b 15), .int 0, .int 0, .int 0, .ref (b 16), .ref (b 17), .ref (b 18), .ref (b 19)])), (b 1, .inl (t 0, 841, .inl (fun _ => 0)))]) (QI (-2)) 0 0 NoF := by
  refine Met.ofW (cc := cX12_cover) (maxL := 3) (ret := (some .int)) (by decide) rfl ?_
  intro p e s m args below meth c s₁ B hml hv
  obtain ⟨rfl, hP, hK, hN⟩ := hv
  have hx := B.exec
  have hb := B.bytes
  have hr := B.returns
  have hts : ∀ w ∈ TB, w.before _ s = true := fun w h => atoms_spec (ws := wd yX12_cover cX12_cover 3 (some .int)) B.pre w (List.mem_cons_of_mem _ h)
  have hown : s.vm.findClass RX12 = some m.cls := findClass_of_methodNamed B.named
  have hlocks := B.notSynchronized
  have hF : CallFix p m c cX12_cover 3 s _ TB RX12 := ⟨hx, hb, hml, hown, hts⟩
  have hl := lv_entry ([.ref (b 0), .int x]) (n := 3) (Nat.le_of_ble_eq_true rfl)
  rw [lg_entry_eq]
  generalize (lg_sl ([.ref (b 0), .int x]) ++ List.replicate (3 - (lg_sl ([.ref (b 0), .int x])).length) Slot.unset).toArray = ls at hl ⊢
  have hl : lv_has ls 3 [(0, .ref (b 0)), (1, .int x)] := hl
  have hS : va_S NoF s.heap s.heap [] := va_S.rf
  have hP : va_P D classes [(b 0, .inr (12, [.int 0, .ref (b 1), .ref (b 2), .ref (b 3), .ref (b 4), .int 0, .ref (b 5), .int 0, .int 0, .int 0, .int 0, .int 0, .int 0, .int (-1), .ref (b 6), .int 0, .ref (b 7), .int 0, .int (-1), .int 0, .ref (b 8), .int 0, .ref (b 9), .int 0, .ref (b 10), .ref (b 11), .ref (b 12), .int 0, .int 0, .int 0, .ref (b 13), .ref (b 14), .ref (b 15), .int 0, .int 0, .int 0, .ref (b 16), .ref (b 17), .ref (b 18), .ref (b 19)])), (b 1, .inl (t 0, 841, .inl (fun _ => 0)))] s.heap := hP
  refine lv_aload_n hx hb dX12_cover_0 rfl (lv_at hl 0 rfl) ?_
  refine lv_iload_n hx hb dX12_cover_1 rfl (lv_at hl 1 rfl) ?_
  refine x_pV hF (c_X12_areMeanings l D t b x) m_1882 m_1884 m_s91 m_13 m_1885 hd_X12_areMeanings ⟨Nat.le_of_ble_eq_true rfl, Nat.le_of_ble_eq_true rfl⟩ hK hN hP hS [0, 1] rfl 0 (ci := 12) rfl rfl rfl hl.1 rfl (Nat.le_of_ble_eq_true rfl) dX12_cover_2 ⟨Nat.zero_le _, Nat.zero_le _⟩ (fun H locs hP hS => ?_)
  refine lv_if_ne (tgt := 11) hx hb dX12_cover_5 (by decide) (fun c9 => absurd c9 (by decide)) (fun _ => ?_)
  refine lv_bipush (v := (-2)) hx hb dX12_cover_8 (by decide) ?_
  exact W.iret (v := (-2)) hx hb hr (fun t9 ht hW => ⟨⟨(-2), (), rfl, rfl, trivial⟩, hS.F ht⟩) hS.2.2 dX12_cover_10

set_option maxHeartbeats 4000000 in
set_option maxRecDepth 100000 in
theorem c_X12_covers (l : Launch) (D : va_G) (t : Nat → ClassId) (b : Nat → Nat) (x : Int32) : Met l yX12_covers (wd yX12_covers cX12_covers 2 (some .int)) (RM 3 0 0) (PreP D (TY t) [.ref (b 0), .int x] [(b 0, .inr (12, [.int 0, .ref (b 1), .ref (b 2), .ref (b 3), .ref (b 4), .int 0, .ref (b 5), .int 0, .int 0, .int 0, .int 0, .int 0, .int 0, .int (-1), .ref (b 6), .int 0, .ref (b 7), .int 0, .int (-1), .int 0, .ref (b 8), .int 0, .ref (b 9), .int 0, .ref (b 10), .ref (b 11), .ref (b 12), .int 0, .int 0, .int 0, .ref (b 13), .ref (b 14), .ref (b 15), .int 0, .int 0, .int 0, .ref (b 16), .ref (b 17), .ref (b 18), .ref (b 19)])), (b 1, .inl (t 0, 841, .inl (fun _ => 0)))]) (QI (-2)) 0 0 NoF := by
  refine Met.ofW (cc := cX12_covers) (maxL := 2) (ret := (some .int)) (by decide) rfl ?_
  intro p e s m args below meth c s₁ B hml hv
  obtain ⟨rfl, hP, hK, hN⟩ := hv
  have hx := B.exec
  have hb := B.bytes
  have hr := B.returns
  have hts : ∀ w ∈ TB, w.before _ s = true := fun w h => atoms_spec (ws := wd yX12_covers cX12_covers 2 (some .int)) B.pre w (List.mem_cons_of_mem _ h)
  have hown : s.vm.findClass RX12 = some m.cls := findClass_of_methodNamed B.named
  have hlocks := B.notSynchronized
  have hF : CallFix p m c cX12_covers 2 s _ TB RX12 := ⟨hx, hb, hml, hown, hts⟩
  have hl := lv_entry ([.ref (b 0), .int x]) (n := 2) (Nat.le_of_ble_eq_true rfl)
  rw [lg_entry_eq]
  generalize (lg_sl ([.ref (b 0), .int x]) ++ List.replicate (2 - (lg_sl ([.ref (b 0), .int x])).length) Slot.unset).toArray = ls at hl ⊢
  have hl : lv_has ls 2 [(0, .ref (b 0)), (1, .int x)] := hl
  have hS : va_S NoF s.heap s.heap [] := va_S.rf
  have hP : va_P D classes [(b 0, .inr (12, [.int 0, .ref (b 1), .ref (b 2), .ref (b 3), .ref (b 4), .int 0, .ref (b 5), .int 0, .int 0, .int 0, .int 0, .int 0, .int 0, .int (-1), .ref (b 6), .int 0, .ref (b 7), .int 0, .int (-1), .int 0, .ref (b 8), .int 0, .ref (b 9), .int 0, .ref (b 10), .ref (b 11), .ref (b 12), .int 0, .int 0, .int 0, .ref (b 13), .ref (b 14), .ref (b 15), .int 0, .int 0, .int 0, .ref (b 16), .ref (b 17), .ref (b 18), .ref (b 19)])), (b 1, .inl (t 0, 841, .inl (fun _ => 0)))] s.heap := hP
  refine lv_aload_n hx hb dX12_covers_0 rfl (lv_at hl 0 rfl) ?_
  refine lv_iload_n hx hb dX12_covers_1 rfl (lv_at hl 1 rfl) ?_
  refine x_pV hF (c_X12_areMeanings l D t b x) m_1882 m_1884 m_s91 m_13 m_1885 hd_X12_areMeanings ⟨Nat.le_of_ble_eq_true rfl, Nat.le_of_ble_eq_true rfl⟩ hK hN hP hS [0, 1] rfl 0 (ci := 12) rfl rfl rfl hl.1 rfl (Nat.le_of_ble_eq_true rfl) dX12_covers_2 ⟨Nat.zero_le _, Nat.zero_le _⟩ (fun H locs hP hS => ?_)
  refine lv_if_eq (tgt := 16) hx hb dX12_covers_5 (by decide) (fun _ => ?_) (fun c9 => absurd (by decide) c9)
  refine lv_bipush (v := (-2)) hx hb dX12_covers_16 (by decide) ?_
  exact W.iret (v := (-2)) hx hb hr (fun t9 ht hW => ⟨⟨(-2), (), rfl, rfl, trivial⟩, hS.F ht⟩) hS.2.2 dX12_covers_18

set_option maxHeartbeats 4000000 in
set_option maxRecDepth 100000 in
theorem c_X12_house (l : Launch) (D : va_G) (t : Nat → ClassId) (b : Nat → Nat) : Met l yX12_house (wd yX12_house cX12_house 1 (some .int)) (RM 3 0 0) (PreP D (TY t) [.ref (b 0)] [(b 0, .inr (12, [.int 0, .ref (b 1), .ref (b 2), .ref (b 3), .ref (b 4), .int 0, .ref (b 5), .int 0, .int 0, .int 0, .int 0, .int 0, .int 0, .int (-1), .ref (b 6), .int 0, .ref (b 7), .int 0, .int (-1), .int 0, .ref (b 8), .int 0, .ref (b 9), .int 0, .ref (b 10), .ref (b 11), .ref (b 12), .int 0, .int 0, .int 0, .ref (b 13), .ref (b 14), .ref (b 15), .int 0, .int 0, .int 0, .ref (b 16), .ref (b 17), .ref (b 18), .ref (b 19)])), (b 1, .inl (t 0, 841, .inl (fun _ => 0)))]) (QI (-2)) 0 0 NoF := by
  refine Met.ofW (cc := cX12_house) (maxL := 1) (ret := (some .int)) (by decide) rfl ?_
  intro p e s m args below meth c s₁ B hml hv
  obtain ⟨rfl, hP, hK, hN⟩ := hv
  have hx := B.exec
  have hb := B.bytes
  have hr := B.returns
  have hts : ∀ w ∈ TB, w.before _ s = true := fun w h => atoms_spec (ws := wd yX12_house cX12_house 1 (some .int)) B.pre w (List.mem_cons_of_mem _ h)
  have hown : s.vm.findClass RX12 = some m.cls := findClass_of_methodNamed B.named
  have hlocks := B.notSynchronized
  have hF : CallFix p m c cX12_house 1 s _ TB RX12 := ⟨hx, hb, hml, hown, hts⟩
  have hl := lv_entry ([.ref (b 0)]) (n := 1) (Nat.le_of_ble_eq_true rfl)
  rw [lg_entry_eq]
  generalize (lg_sl ([.ref (b 0)]) ++ List.replicate (1 - (lg_sl ([.ref (b 0)])).length) Slot.unset).toArray = ls at hl ⊢
  have hl : lv_has ls 1 [(0, .ref (b 0))] := hl
  have hS : va_S NoF s.heap s.heap [] := va_S.rf
  have hP : va_P D classes [(b 0, .inr (12, [.int 0, .ref (b 1), .ref (b 2), .ref (b 3), .ref (b 4), .int 0, .ref (b 5), .int 0, .int 0, .int 0, .int 0, .int 0, .int 0, .int (-1), .ref (b 6), .int 0, .ref (b 7), .int 0, .int (-1), .int 0, .ref (b 8), .int 0, .ref (b 9), .int 0, .ref (b 10), .ref (b 11), .ref (b 12), .int 0, .int 0, .int 0, .ref (b 13), .ref (b 14), .ref (b 15), .int 0, .int 0, .int 0, .ref (b 16), .ref (b 17), .ref (b 18), .ref (b 19)])), (b 1, .inl (t 0, 841, .inl (fun _ => 0)))] s.heap := hP
  refine lv_aload_n hx hb dX12_house_0 rfl (lv_at hl 0 rfl) ?_
  refine x_pV hF (c_X12_isChamber l D t b) m_1766 m_1768 m_s81 m_13 m_1769 hd_X12_isChamber ⟨Nat.le_of_ble_eq_true rfl, Nat.le_of_ble_eq_true rfl⟩ hK hN hP hS [0, 1] rfl 0 (ci := 12) rfl rfl rfl hl.1 rfl (Nat.le_of_ble_eq_true rfl) dX12_house_1 ⟨Nat.zero_le _, Nat.zero_le _⟩ (fun H locs hP hS => ?_)
  refine lv_if_eq (tgt := 14) hx hb dX12_house_4 (by decide) (fun _ => ?_) (fun c9 => absurd (by decide) c9)
  refine lv_bipush (v := (-2)) hx hb dX12_house_14 (by decide) ?_
  exact W.iret (v := (-2)) hx hb hr (fun t9 ht hW => ⟨⟨(-2), (), rfl, rfl, trivial⟩, hS.F ht⟩) hS.2.2 dX12_house_16

set_option maxHeartbeats 4000000 in
set_option maxRecDepth 100000 in
theorem c_X12_housed (l : Launch) (D : va_G) (t : Nat → ClassId) (b : Nat → Nat) : Met l yX12_housed (wd yX12_housed cX12_housed 1 (some .int)) (RM 3 0 0) (PreP D (TY t) [.ref (b 0)] [(b 0, .inr (12, [.int 0, .ref (b 1), .ref (b 2), .ref (b 3), .ref (b 4), .int 0, .ref (b 5), .int 0, .int 0, .int 0, .int 0, .int 0, .int 0, .int (-1), .ref (b 6), .int 0, .ref (b 7), .int 0, .int (-1), .int 0, .ref (b 8), .int 0, .ref (b 9), .int 0, .ref (b 10), .ref (b 11), .ref (b 12), .int 0, .int 0, .int 0, .ref (b 13), .ref (b 14), .ref (b 15), .int 0, .int 0, .int 0, .ref (b 16), .ref (b 17), .ref (b 18), .ref (b 19)])), (b 1, .inl (t 0, 841, .inl (fun _ => 0)))]) (QI (-2)) 0 0 NoF := by
  refine Met.ofW (cc := cX12_housed) (maxL := 1) (ret := (some .int)) (by decide) rfl ?_
  intro p e s m args below meth c s₁ B hml hv
  obtain ⟨rfl, hP, hK, hN⟩ := hv
  have hx := B.exec
  have hb := B.bytes
  have hr := B.returns
  have hts : ∀ w ∈ TB, w.before _ s = true := fun w h => atoms_spec (ws := wd yX12_housed cX12_housed 1 (some .int)) B.pre w (List.mem_cons_of_mem _ h)
  have hown : s.vm.findClass RX12 = some m.cls := findClass_of_methodNamed B.named
  have hlocks := B.notSynchronized
  have hF : CallFix p m c cX12_housed 1 s _ TB RX12 := ⟨hx, hb, hml, hown, hts⟩
  have hl := lv_entry ([.ref (b 0)]) (n := 1) (Nat.le_of_ble_eq_true rfl)
  rw [lg_entry_eq]
  generalize (lg_sl ([.ref (b 0)]) ++ List.replicate (1 - (lg_sl ([.ref (b 0)])).length) Slot.unset).toArray = ls at hl ⊢
  have hl : lv_has ls 1 [(0, .ref (b 0))] := hl
  have hS : va_S NoF s.heap s.heap [] := va_S.rf
  have hP : va_P D classes [(b 0, .inr (12, [.int 0, .ref (b 1), .ref (b 2), .ref (b 3), .ref (b 4), .int 0, .ref (b 5), .int 0, .int 0, .int 0, .int 0, .int 0, .int 0, .int (-1), .ref (b 6), .int 0, .ref (b 7), .int 0, .int (-1), .int 0, .ref (b 8), .int 0, .ref (b 9), .int 0, .ref (b 10), .ref (b 11), .ref (b 12), .int 0, .int 0, .int 0, .ref (b 13), .ref (b 14), .ref (b 15), .int 0, .int 0, .int 0, .ref (b 16), .ref (b 17), .ref (b 18), .ref (b 19)])), (b 1, .inl (t 0, 841, .inl (fun _ => 0)))] s.heap := hP
  refine lv_aload_n hx hb dX12_housed_0 rfl (lv_at hl 0 rfl) ?_
  refine x_pV hF (c_X12_isChamber l D t b) m_1766 m_1768 m_s81 m_13 m_1769 hd_X12_isChamber ⟨Nat.le_of_ble_eq_true rfl, Nat.le_of_ble_eq_true rfl⟩ hK hN hP hS [0, 1] rfl 0 (ci := 12) rfl rfl rfl hl.1 rfl (Nat.le_of_ble_eq_true rfl) dX12_housed_1 ⟨Nat.zero_le _, Nat.zero_le _⟩ (fun H locs hP hS => ?_)
  refine lv_if_ne (tgt := 10) hx hb dX12_housed_4 (by decide) (fun c9 => absurd c9 (by decide)) (fun _ => ?_)
  refine lv_bipush (v := (-2)) hx hb dX12_housed_7 (by decide) ?_
  exact W.iret (v := (-2)) hx hb hr (fun t9 ht hW => ⟨⟨(-2), (), rfl, rfl, trivial⟩, hS.F ht⟩) hS.2.2 dX12_housed_9

set_option maxHeartbeats 4000000 in
set_option maxRecDepth 100000 in
theorem c_X12_feint (l : Launch) (D : va_G) (t : Nat → ClassId) (b : Nat → Nat) (x : Int32) : Met l yX12_feint (wd yX12_feint cX12_feint 2 (some .int)) (RM 3 0 0) (PreP D (TY t) [.ref (b 0), .int x] [(b 0, .inr (12, [.int 0, .ref (b 1), .ref (b 2), .ref (b 3), .ref (b 4), .int 0, .ref (b 5), .int 0, .int 0, .int 0, .int 0, .int 0, .int 0, .int (-1), .ref (b 6), .int 0, .ref (b 7), .int 0, .int (-1), .int 0, .ref (b 8), .int 0, .ref (b 9), .int 0, .ref (b 10), .ref (b 11), .ref (b 12), .int 0, .int 0, .int 0, .ref (b 13), .ref (b 14), .ref (b 15), .int 0, .int 0, .int 0, .ref (b 16), .ref (b 17), .ref (b 18), .ref (b 19)])), (b 1, .inl (t 0, 841, .inl (fun _ => 0)))]) (QI (-2)) 0 0 NoF := by
  refine Met.ofW (cc := cX12_feint) (maxL := 2) (ret := (some .int)) (by decide) rfl ?_
  intro p e s m args below meth c s₁ B hml hv
  obtain ⟨rfl, hP, hK, hN⟩ := hv
  have hx := B.exec
  have hb := B.bytes
  have hr := B.returns
  have hts : ∀ w ∈ TB, w.before _ s = true := fun w h => atoms_spec (ws := wd yX12_feint cX12_feint 2 (some .int)) B.pre w (List.mem_cons_of_mem _ h)
  have hown : s.vm.findClass RX12 = some m.cls := findClass_of_methodNamed B.named
  have hlocks := B.notSynchronized
  have hF : CallFix p m c cX12_feint 2 s _ TB RX12 := ⟨hx, hb, hml, hown, hts⟩
  have hl := lv_entry ([.ref (b 0), .int x]) (n := 2) (Nat.le_of_ble_eq_true rfl)
  rw [lg_entry_eq]
  generalize (lg_sl ([.ref (b 0), .int x]) ++ List.replicate (2 - (lg_sl ([.ref (b 0), .int x])).length) Slot.unset).toArray = ls at hl ⊢
  have hl : lv_has ls 2 [(0, .ref (b 0)), (1, .int x)] := hl
  have hS : va_S NoF s.heap s.heap [] := va_S.rf
  have hP : va_P D classes [(b 0, .inr (12, [.int 0, .ref (b 1), .ref (b 2), .ref (b 3), .ref (b 4), .int 0, .ref (b 5), .int 0, .int 0, .int 0, .int 0, .int 0, .int 0, .int (-1), .ref (b 6), .int 0, .ref (b 7), .int 0, .int (-1), .int 0, .ref (b 8), .int 0, .ref (b 9), .int 0, .ref (b 10), .ref (b 11), .ref (b 12), .int 0, .int 0, .int 0, .ref (b 13), .ref (b 14), .ref (b 15), .int 0, .int 0, .int 0, .ref (b 16), .ref (b 17), .ref (b 18), .ref (b 19)])), (b 1, .inl (t 0, 841, .inl (fun _ => 0)))] s.heap := hP
  refine lv_aload_n hx hb dX12_feint_0 rfl (lv_at hl 0 rfl) ?_
  refine lv_iload_n hx hb dX12_feint_1 rfl (lv_at hl 1 rfl) ?_
  refine x_pV hF (c_X12_isSpeaker l D t b x) m_1623 m_1625 m_s59 m_13 m_1626 hd_X12_isSpeaker ⟨Nat.le_of_ble_eq_true rfl, Nat.le_of_ble_eq_true rfl⟩ hK hN hP hS [0, 1] rfl 0 (ci := 12) rfl rfl rfl hl.1 rfl (Nat.le_of_ble_eq_true rfl) dX12_feint_2 ⟨Nat.zero_le _, Nat.zero_le _⟩ (fun H locs hP hS => ?_)
  refine lv_if_ne (tgt := 11) hx hb dX12_feint_5 (by decide) (fun c9 => absurd c9 (by decide)) (fun _ => ?_)
  refine lv_bipush (v := (-2)) hx hb dX12_feint_8 (by decide) ?_
  exact W.iret (v := (-2)) hx hb hr (fun t9 ht hW => ⟨⟨(-2), (), rfl, rfl, trivial⟩, hS.F ht⟩) hS.2.2 dX12_feint_10

set_option maxHeartbeats 4000000 in
set_option maxRecDepth 100000 in
theorem c_X12_gains (l : Launch) (D : va_G) (t : Nat → ClassId) (b : Nat → Nat) (x : Int32) : Met l yX12_gains (wd yX12_gains cX12_gains 2 (some .int)) (RM 3 0 0) (PreP D (TY t) [.ref (b 0), .int x] [(b 0, .inr (12, [.int 0, .ref (b 1), .ref (b 2), .ref (b 3), .ref (b 4), .int 0, .ref (b 5), .int 0, .int 0, .int 0, .int 0, .int 0, .int 0, .int (-1), .ref (b 6), .int 0, .ref (b 7), .int 0, .int (-1), .int 0, .ref (b 8), .int 0, .ref (b 9), .int 0, .ref (b 10), .ref (b 11), .ref (b 12), .int 0, .int 0, .int 0, .ref (b 13), .ref (b 14), .ref (b 15), .int 0, .int 0, .int 0, .ref (b 16), .ref (b 17), .ref (b 18), .ref (b 19)])), (b 1, .inl (t 0, 841, .inl (fun _ => 0)))]) (QI (-2)) 0 0 NoF := by
  refine Met.ofW (cc := cX12_gains) (maxL := 2) (ret := (some .int)) (by decide) rfl ?_
  intro p e s m args below meth c s₁ B hml hv
  obtain ⟨rfl, hP, hK, hN⟩ := hv
  have hx := B.exec
  have hb := B.bytes
  have hr := B.returns
  have hts : ∀ w ∈ TB, w.before _ s = true := fun w h => atoms_spec (ws := wd yX12_gains cX12_gains 2 (some .int)) B.pre w (List.mem_cons_of_mem _ h)
  have hown : s.vm.findClass RX12 = some m.cls := findClass_of_methodNamed B.named
  have hlocks := B.notSynchronized
  have hF : CallFix p m c cX12_gains 2 s _ TB RX12 := ⟨hx, hb, hml, hown, hts⟩
  have hl := lv_entry ([.ref (b 0), .int x]) (n := 2) (Nat.le_of_ble_eq_true rfl)
  rw [lg_entry_eq]
  generalize (lg_sl ([.ref (b 0), .int x]) ++ List.replicate (2 - (lg_sl ([.ref (b 0), .int x])).length) Slot.unset).toArray = ls at hl ⊢
  have hl : lv_has ls 2 [(0, .ref (b 0)), (1, .int x)] := hl
  have hS : va_S NoF s.heap s.heap [] := va_S.rf
  have hP : va_P D classes [(b 0, .inr (12, [.int 0, .ref (b 1), .ref (b 2), .ref (b 3), .ref (b 4), .int 0, .ref (b 5), .int 0, .int 0, .int 0, .int 0, .int 0, .int 0, .int (-1), .ref (b 6), .int 0, .ref (b 7), .int 0, .int (-1), .int 0, .ref (b 8), .int 0, .ref (b 9), .int 0, .ref (b 10), .ref (b 11), .ref (b 12), .int 0, .int 0, .int 0, .ref (b 13), .ref (b 14), .ref (b 15), .int 0, .int 0, .int 0, .ref (b 16), .ref (b 17), .ref (b 18), .ref (b 19)])), (b 1, .inl (t 0, 841, .inl (fun _ => 0)))] s.heap := hP
  refine lv_aload_n hx hb dX12_gains_0 rfl (lv_at hl 0 rfl) ?_
  refine lv_iload_n hx hb dX12_gains_1 rfl (lv_at hl 1 rfl) ?_
  refine x_pV hF (c_X12_isSpeaker l D t b x) m_1623 m_1625 m_s59 m_13 m_1626 hd_X12_isSpeaker ⟨Nat.le_of_ble_eq_true rfl, Nat.le_of_ble_eq_true rfl⟩ hK hN hP hS [0, 1] rfl 0 (ci := 12) rfl rfl rfl hl.1 rfl (Nat.le_of_ble_eq_true rfl) dX12_gains_2 ⟨Nat.zero_le _, Nat.zero_le _⟩ (fun H locs hP hS => ?_)
  refine lv_if_ne (tgt := 11) hx hb dX12_gains_5 (by decide) (fun c9 => absurd c9 (by decide)) (fun _ => ?_)
  refine lv_bipush (v := (-2)) hx hb dX12_gains_8 (by decide) ?_
  exact W.iret (v := (-2)) hx hb hr (fun t9 ht hW => ⟨⟨(-2), (), rfl, rfl, trivial⟩, hS.F ht⟩) hS.2.2 dX12_gains_10

set_option maxHeartbeats 4000000 in
set_option maxRecDepth 100000 in
theorem c_X12_restless (l : Launch) (D : va_G) (t : Nat → ClassId) (b : Nat → Nat) : Met l yX12_restless (wd yX12_restless cX12_restless 3 (some .int)) (RM 3 0 0) (PreP D (TY t) [.ref (b 0)] [(b 0, .inr (12, [.int 0, .ref (b 1), .ref (b 2), .ref (b 3), .ref (b 4), .int 0, .ref (b 5), .int 0, .int 0, .int 0, .int 0, .int 0, .int 0, .int (-1), .ref (b 6), .int 0, .ref (b 7), .int 0, .int (-1), .int 0, .ref (b 8), .int 0, .ref (b 9), .int 0, .ref (b 10), .ref (b 11), .ref (b 12), .int 0, .int 0, .int 0, .ref (b 13), .ref (b 14), .ref (b 15), .int 0, .int 0, .int 0, .ref (b 16), .ref (b 17), .ref (b 18), .ref (b 19)])), (b 1, .inl (t 0, 841, .inl (fun _ => 0)))]) (QI (-2)) 0 0 NoF := by
  refine Met.ofW (cc := cX12_restless) (maxL := 3) (ret := (some .int)) (by decide) rfl ?_
  intro p e s m args below meth c s₁ B hml hv
  obtain ⟨rfl, hP, hK, hN⟩ := hv
  have hx := B.exec
  have hb := B.bytes
  have hr := B.returns
  have hts : ∀ w ∈ TB, w.before _ s = true := fun w h => atoms_spec (ws := wd yX12_restless cX12_restless 3 (some .int)) B.pre w (List.mem_cons_of_mem _ h)
  have hown : s.vm.findClass RX12 = some m.cls := findClass_of_methodNamed B.named
  have hlocks := B.notSynchronized
  have hF : CallFix p m c cX12_restless 3 s _ TB RX12 := ⟨hx, hb, hml, hown, hts⟩
  have hl := lv_entry ([.ref (b 0)]) (n := 3) (Nat.le_of_ble_eq_true rfl)
  rw [lg_entry_eq]
  generalize (lg_sl ([.ref (b 0)]) ++ List.replicate (3 - (lg_sl ([.ref (b 0)])).length) Slot.unset).toArray = ls at hl ⊢
  have hl : lv_has ls 3 [(0, .ref (b 0))] := hl
  have hS : va_S NoF s.heap s.heap [] := va_S.rf
  have hP : va_P D classes [(b 0, .inr (12, [.int 0, .ref (b 1), .ref (b 2), .ref (b 3), .ref (b 4), .int 0, .ref (b 5), .int 0, .int 0, .int 0, .int 0, .int 0, .int 0, .int (-1), .ref (b 6), .int 0, .ref (b 7), .int 0, .int (-1), .int 0, .ref (b 8), .int 0, .ref (b 9), .int 0, .ref (b 10), .ref (b 11), .ref (b 12), .int 0, .int 0, .int 0, .ref (b 13), .ref (b 14), .ref (b 15), .int 0, .int 0, .int 0, .ref (b 16), .ref (b 17), .ref (b 18), .ref (b 19)])), (b 1, .inl (t 0, 841, .inl (fun _ => 0)))] s.heap := hP
  refine lv_aload_n hx hb dX12_restless_0 rfl (lv_at hl 0 rfl) ?_
  refine x_pV hF (c_X12_isChamber l D t b) m_1766 m_1768 m_s81 m_13 m_1769 hd_X12_isChamber ⟨Nat.le_of_ble_eq_true rfl, Nat.le_of_ble_eq_true rfl⟩ hK hN hP hS [0, 1] rfl 0 (ci := 12) rfl rfl rfl hl.1 rfl (Nat.le_of_ble_eq_true rfl) dX12_restless_1 ⟨Nat.zero_le _, Nat.zero_le _⟩ (fun H locs hP hS => ?_)
  refine lv_if_ne (tgt := 10) hx hb dX12_restless_4 (by decide) (fun c9 => absurd c9 (by decide)) (fun _ => ?_)
  refine lv_bipush (v := (-2)) hx hb dX12_restless_7 (by decide) ?_
  exact W.iret (v := (-2)) hx hb hr (fun t9 ht hW => ⟨⟨(-2), (), rfl, rfl, trivial⟩, hS.F ht⟩) hS.2.2 dX12_restless_9

set_option maxHeartbeats 4000000 in
set_option maxRecDepth 100000 in
theorem c_X12_seats (l : Launch) (D : va_G) (t : Nat → ClassId) (b : Nat → Nat) (x : Int32) : Met l yX12_seats (wd yX12_seats cX12_seats 2 (some .int)) (RM 3 0 0) (PreP D (TY t) [.ref (b 0), .int x] [(b 0, .inr (12, [.int 0, .ref (b 1), .ref (b 2), .ref (b 3), .ref (b 4), .int 0, .ref (b 5), .int 0, .int 0, .int 0, .int 0, .int 0, .int 0, .int (-1), .ref (b 6), .int 0, .ref (b 7), .int 0, .int (-1), .int 0, .ref (b 8), .int 0, .ref (b 9), .int 0, .ref (b 10), .ref (b 11), .ref (b 12), .int 0, .int 0, .int 0, .ref (b 13), .ref (b 14), .ref (b 15), .int 0, .int 0, .int 0, .ref (b 16), .ref (b 17), .ref (b 18), .ref (b 19)])), (b 1, .inl (t 0, 841, .inl (fun _ => 0)))]) (QI (-2)) 0 0 NoF := by
  refine Met.ofW (cc := cX12_seats) (maxL := 2) (ret := (some .int)) (by decide) rfl ?_
  intro p e s m args below meth c s₁ B hml hv
  obtain ⟨rfl, hP, hK, hN⟩ := hv
  have hx := B.exec
  have hb := B.bytes
  have hr := B.returns
  have hts : ∀ w ∈ TB, w.before _ s = true := fun w h => atoms_spec (ws := wd yX12_seats cX12_seats 2 (some .int)) B.pre w (List.mem_cons_of_mem _ h)
  have hown : s.vm.findClass RX12 = some m.cls := findClass_of_methodNamed B.named
  have hlocks := B.notSynchronized
  have hF : CallFix p m c cX12_seats 2 s _ TB RX12 := ⟨hx, hb, hml, hown, hts⟩
  have hl := lv_entry ([.ref (b 0), .int x]) (n := 2) (Nat.le_of_ble_eq_true rfl)
  rw [lg_entry_eq]
  generalize (lg_sl ([.ref (b 0), .int x]) ++ List.replicate (2 - (lg_sl ([.ref (b 0), .int x])).length) Slot.unset).toArray = ls at hl ⊢
  have hl : lv_has ls 2 [(0, .ref (b 0)), (1, .int x)] := hl
  have hS : va_S NoF s.heap s.heap [] := va_S.rf
  have hP : va_P D classes [(b 0, .inr (12, [.int 0, .ref (b 1), .ref (b 2), .ref (b 3), .ref (b 4), .int 0, .ref (b 5), .int 0, .int 0, .int 0, .int 0, .int 0, .int 0, .int (-1), .ref (b 6), .int 0, .ref (b 7), .int 0, .int (-1), .int 0, .ref (b 8), .int 0, .ref (b 9), .int 0, .ref (b 10), .ref (b 11), .ref (b 12), .int 0, .int 0, .int 0, .ref (b 13), .ref (b 14), .ref (b 15), .int 0, .int 0, .int 0, .ref (b 16), .ref (b 17), .ref (b 18), .ref (b 19)])), (b 1, .inl (t 0, 841, .inl (fun _ => 0)))] s.heap := hP
  refine lv_aload_n hx hb dX12_seats_0 rfl (lv_at hl 0 rfl) ?_
  refine x_pV hF (c_X12_isChamber l D t b) m_1766 m_1768 m_s81 m_13 m_1769 hd_X12_isChamber ⟨Nat.le_of_ble_eq_true rfl, Nat.le_of_ble_eq_true rfl⟩ hK hN hP hS [0, 1] rfl 0 (ci := 12) rfl rfl rfl hl.1 rfl (Nat.le_of_ble_eq_true rfl) dX12_seats_1 ⟨Nat.zero_le _, Nat.zero_le _⟩ (fun H locs hP hS => ?_)
  refine lv_if_eq (tgt := 24) hx hb dX12_seats_4 (by decide) (fun _ => ?_) (fun c9 => absurd (by decide) c9)
  refine lv_bipush (v := (-2)) hx hb dX12_seats_24 (by decide) ?_
  exact W.iret (v := (-2)) hx hb hr (fun t9 ht hW => ⟨⟨(-2), (), rfl, rfl, trivial⟩, hS.F ht⟩) hS.2.2 dX12_seats_26

set_option maxHeartbeats 4000000 in
set_option maxRecDepth 100000 in
theorem c_X12_majority (l : Launch) (D : va_G) (t : Nat → ClassId) (b : Nat → Nat) (x : Int32) : Met l yX12_majority (wd yX12_majority cX12_majority 2 (some .int)) (RM 3 0 0) (PreP D (TY t) [.ref (b 0), .int x] [(b 0, .inr (12, [.int 0, .ref (b 1), .ref (b 2), .ref (b 3), .ref (b 4), .int 0, .ref (b 5), .int 0, .int 0, .int 0, .int 0, .int 0, .int 0, .int (-1), .ref (b 6), .int 0, .ref (b 7), .int 0, .int (-1), .int 0, .ref (b 8), .int 0, .ref (b 9), .int 0, .ref (b 10), .ref (b 11), .ref (b 12), .int 0, .int 0, .int 0, .ref (b 13), .ref (b 14), .ref (b 15), .int 0, .int 0, .int 0, .ref (b 16), .ref (b 17), .ref (b 18), .ref (b 19)])), (b 1, .inl (t 0, 841, .inl (fun _ => 0)))]) (QI (-2)) 0 0 NoF := by
  refine Met.ofW (cc := cX12_majority) (maxL := 2) (ret := (some .int)) (by decide) rfl ?_
  intro p e s m args below meth c s₁ B hml hv
  obtain ⟨rfl, hP, hK, hN⟩ := hv
  have hx := B.exec
  have hb := B.bytes
  have hr := B.returns
  have hts : ∀ w ∈ TB, w.before _ s = true := fun w h => atoms_spec (ws := wd yX12_majority cX12_majority 2 (some .int)) B.pre w (List.mem_cons_of_mem _ h)
  have hown : s.vm.findClass RX12 = some m.cls := findClass_of_methodNamed B.named
  have hlocks := B.notSynchronized
  have hF : CallFix p m c cX12_majority 2 s _ TB RX12 := ⟨hx, hb, hml, hown, hts⟩
  have hl := lv_entry ([.ref (b 0), .int x]) (n := 2) (Nat.le_of_ble_eq_true rfl)
  rw [lg_entry_eq]
  generalize (lg_sl ([.ref (b 0), .int x]) ++ List.replicate (2 - (lg_sl ([.ref (b 0), .int x])).length) Slot.unset).toArray = ls at hl ⊢
  have hl : lv_has ls 2 [(0, .ref (b 0)), (1, .int x)] := hl
  have hS : va_S NoF s.heap s.heap [] := va_S.rf
  have hP : va_P D classes [(b 0, .inr (12, [.int 0, .ref (b 1), .ref (b 2), .ref (b 3), .ref (b 4), .int 0, .ref (b 5), .int 0, .int 0, .int 0, .int 0, .int 0, .int 0, .int (-1), .ref (b 6), .int 0, .ref (b 7), .int 0, .int (-1), .int 0, .ref (b 8), .int 0, .ref (b 9), .int 0, .ref (b 10), .ref (b 11), .ref (b 12), .int 0, .int 0, .int 0, .ref (b 13), .ref (b 14), .ref (b 15), .int 0, .int 0, .int 0, .ref (b 16), .ref (b 17), .ref (b 18), .ref (b 19)])), (b 1, .inl (t 0, 841, .inl (fun _ => 0)))] s.heap := hP
  refine lv_aload_n hx hb dX12_majority_0 rfl (lv_at hl 0 rfl) ?_
  refine lv_iload_n hx hb dX12_majority_1 rfl (lv_at hl 1 rfl) ?_
  refine x_pV hF (c_X12_areParties l D t b x) m_1945 m_1947 m_s98 m_13 m_1948 hd_X12_areParties ⟨Nat.le_of_ble_eq_true rfl, Nat.le_of_ble_eq_true rfl⟩ hK hN hP hS [0, 1] rfl 0 (ci := 12) rfl rfl rfl hl.1 rfl (Nat.le_of_ble_eq_true rfl) dX12_majority_2 ⟨Nat.zero_le _, Nat.zero_le _⟩ (fun H locs hP hS => ?_)
  refine lv_if_eq (tgt := 24) hx hb dX12_majority_5 (by decide) (fun _ => ?_) (fun c9 => absurd (by decide) c9)
  refine lv_bipush (v := (-2)) hx hb dX12_majority_24 (by decide) ?_
  exact W.iret (v := (-2)) hx hb hr (fun t9 ht hW => ⟨⟨(-2), (), rfl, rfl, trivial⟩, hS.F ht⟩) hS.2.2 dX12_majority_26

set_option maxHeartbeats 4000000 in
set_option maxRecDepth 100000 in
theorem c_X12_share (l : Launch) (D : va_G) (t : Nat → ClassId) (b : Nat → Nat) (x : Int32) (y : Int32) : Met l yX12_share (wd yX12_share cX12_share 5 (some .int)) (RM 3 0 0) (PreP D (TY t) [.ref (b 0), .int x, .int y] [(b 0, .inr (12, [.int 0, .ref (b 1), .ref (b 2), .ref (b 3), .ref (b 4), .int 0, .ref (b 5), .int 0, .int 0, .int 0, .int 0, .int 0, .int 0, .int (-1), .ref (b 6), .int 0, .ref (b 7), .int 0, .int (-1), .int 0, .ref (b 8), .int 0, .ref (b 9), .int 0, .ref (b 10), .ref (b 11), .ref (b 12), .int 0, .int 0, .int 0, .ref (b 13), .ref (b 14), .ref (b 15), .int 0, .int 0, .int 0, .ref (b 16), .ref (b 17), .ref (b 18), .ref (b 19)])), (b 1, .inl (t 0, 841, .inl (fun _ => 0)))]) (QI (-2)) 0 0 NoF := by
  refine Met.ofW (cc := cX12_share) (maxL := 5) (ret := (some .int)) (by decide) rfl ?_
  intro p e s m args below meth c s₁ B hml hv
  obtain ⟨rfl, hP, hK, hN⟩ := hv
  have hx := B.exec
  have hb := B.bytes
  have hr := B.returns
  have hts : ∀ w ∈ TB, w.before _ s = true := fun w h => atoms_spec (ws := wd yX12_share cX12_share 5 (some .int)) B.pre w (List.mem_cons_of_mem _ h)
  have hown : s.vm.findClass RX12 = some m.cls := findClass_of_methodNamed B.named
  have hlocks := B.notSynchronized
  have hF : CallFix p m c cX12_share 5 s _ TB RX12 := ⟨hx, hb, hml, hown, hts⟩
  have hl := lv_entry ([.ref (b 0), .int x, .int y]) (n := 5) (Nat.le_of_ble_eq_true rfl)
  rw [lg_entry_eq]
  generalize (lg_sl ([.ref (b 0), .int x, .int y]) ++ List.replicate (5 - (lg_sl ([.ref (b 0), .int x, .int y])).length) Slot.unset).toArray = ls at hl ⊢
  have hl : lv_has ls 5 [(0, .ref (b 0)), (1, .int x), (2, .int y)] := hl
  have hS : va_S NoF s.heap s.heap [] := va_S.rf
  have hP : va_P D classes [(b 0, .inr (12, [.int 0, .ref (b 1), .ref (b 2), .ref (b 3), .ref (b 4), .int 0, .ref (b 5), .int 0, .int 0, .int 0, .int 0, .int 0, .int 0, .int (-1), .ref (b 6), .int 0, .ref (b 7), .int 0, .int (-1), .int 0, .ref (b 8), .int 0, .ref (b 9), .int 0, .ref (b 10), .ref (b 11), .ref (b 12), .int 0, .int 0, .int 0, .ref (b 13), .ref (b 14), .ref (b 15), .int 0, .int 0, .int 0, .ref (b 16), .ref (b 17), .ref (b 18), .ref (b 19)])), (b 1, .inl (t 0, 841, .inl (fun _ => 0)))] s.heap := hP
  refine lv_aload_n hx hb dX12_share_0 rfl (lv_at hl 0 rfl) ?_
  refine x_pV hF (c_X12_isChamber l D t b) m_1766 m_1768 m_s81 m_13 m_1769 hd_X12_isChamber ⟨Nat.le_of_ble_eq_true rfl, Nat.le_of_ble_eq_true rfl⟩ hK hN hP hS [0, 1] rfl 0 (ci := 12) rfl rfl rfl hl.1 rfl (Nat.le_of_ble_eq_true rfl) dX12_share_1 ⟨Nat.zero_le _, Nat.zero_le _⟩ (fun H locs hP hS => ?_)
  refine lv_if_eq (tgt := 24) hx hb dX12_share_4 (by decide) (fun _ => ?_) (fun c9 => absurd (by decide) c9)
  refine lv_bipush (v := (-2)) hx hb dX12_share_24 (by decide) ?_
  exact W.iret (v := (-2)) hx hb hr (fun t9 ht hW => ⟨⟨(-2), (), rfl, rfl, trivial⟩, hS.F ht⟩) hS.2.2 dX12_share_26

set_option maxHeartbeats 4000000 in
set_option maxRecDepth 100000 in
theorem c_X12_coalition (l : Launch) (D : va_G) (t : Nat → ClassId) (b : Nat → Nat) : Met l yX12_coalition (wd yX12_coalition cX12_coalition 3 (some .int)) (RM 3 0 0) (PreP D (TY t) [.ref (b 0)] [(b 0, .inr (12, [.int 0, .ref (b 1), .ref (b 2), .ref (b 3), .ref (b 4), .int 0, .ref (b 5), .int 0, .int 0, .int 0, .int 0, .int 0, .int 0, .int (-1), .ref (b 6), .int 0, .ref (b 7), .int 0, .int (-1), .int 0, .ref (b 8), .int 0, .ref (b 9), .int 0, .ref (b 10), .ref (b 11), .ref (b 12), .int 0, .int 0, .int 0, .ref (b 13), .ref (b 14), .ref (b 15), .int 0, .int 0, .int 0, .ref (b 16), .ref (b 17), .ref (b 18), .ref (b 19)])), (b 1, .inl (t 0, 841, .inl (fun _ => 0)))]) (QI (-2)) 0 0 NoF := by
  refine Met.ofW (cc := cX12_coalition) (maxL := 3) (ret := (some .int)) (by decide) rfl ?_
  intro p e s m args below meth c s₁ B hml hv
  obtain ⟨rfl, hP, hK, hN⟩ := hv
  have hx := B.exec
  have hb := B.bytes
  have hr := B.returns
  have hts : ∀ w ∈ TB, w.before _ s = true := fun w h => atoms_spec (ws := wd yX12_coalition cX12_coalition 3 (some .int)) B.pre w (List.mem_cons_of_mem _ h)
  have hown : s.vm.findClass RX12 = some m.cls := findClass_of_methodNamed B.named
  have hlocks := B.notSynchronized
  have hF : CallFix p m c cX12_coalition 3 s _ TB RX12 := ⟨hx, hb, hml, hown, hts⟩
  have hl := lv_entry ([.ref (b 0)]) (n := 3) (Nat.le_of_ble_eq_true rfl)
  rw [lg_entry_eq]
  generalize (lg_sl ([.ref (b 0)]) ++ List.replicate (3 - (lg_sl ([.ref (b 0)])).length) Slot.unset).toArray = ls at hl ⊢
  have hl : lv_has ls 3 [(0, .ref (b 0))] := hl
  have hS : va_S NoF s.heap s.heap [] := va_S.rf
  have hP : va_P D classes [(b 0, .inr (12, [.int 0, .ref (b 1), .ref (b 2), .ref (b 3), .ref (b 4), .int 0, .ref (b 5), .int 0, .int 0, .int 0, .int 0, .int 0, .int 0, .int (-1), .ref (b 6), .int 0, .ref (b 7), .int 0, .int (-1), .int 0, .ref (b 8), .int 0, .ref (b 9), .int 0, .ref (b 10), .ref (b 11), .ref (b 12), .int 0, .int 0, .int 0, .ref (b 13), .ref (b 14), .ref (b 15), .int 0, .int 0, .int 0, .ref (b 16), .ref (b 17), .ref (b 18), .ref (b 19)])), (b 1, .inl (t 0, 841, .inl (fun _ => 0)))] s.heap := hP
  refine lv_aload_n hx hb dX12_coalition_0 rfl (lv_at hl 0 rfl) ?_
  refine x_pV hF (c_X12_isChamber l D t b) m_1766 m_1768 m_s81 m_13 m_1769 hd_X12_isChamber ⟨Nat.le_of_ble_eq_true rfl, Nat.le_of_ble_eq_true rfl⟩ hK hN hP hS [0, 1] rfl 0 (ci := 12) rfl rfl rfl hl.1 rfl (Nat.le_of_ble_eq_true rfl) dX12_coalition_1 ⟨Nat.zero_le _, Nat.zero_le _⟩ (fun H locs hP hS => ?_)
  refine lv_if_ne (tgt := 10) hx hb dX12_coalition_4 (by decide) (fun c9 => absurd c9 (by decide)) (fun _ => ?_)
  refine lv_bipush (v := (-2)) hx hb dX12_coalition_7 (by decide) ?_
  exact W.iret (v := (-2)) hx hb hr (fun t9 ht hW => ⟨⟨(-2), (), rfl, rfl, trivial⟩, hS.F ht⟩) hS.2.2 dX12_coalition_9

set_option maxHeartbeats 4000000 in
set_option maxRecDepth 100000 in
theorem c_X12_breaks (l : Launch) (D : va_G) (t : Nat → ClassId) (b : Nat → Nat) (x : Int32) : Met l yX12_breaks (wd yX12_breaks cX12_breaks 4 (some .int)) (RM 3 0 0) (PreP D (TY t) [.ref (b 0), .int x] [(b 0, .inr (12, [.int 0, .ref (b 1), .ref (b 2), .ref (b 3), .ref (b 4), .int 0, .ref (b 5), .int 0, .int 0, .int 0, .int 0, .int 0, .int 0, .int (-1), .ref (b 6), .int 0, .ref (b 7), .int 0, .int (-1), .int 0, .ref (b 8), .int 0, .ref (b 9), .int 0, .ref (b 10), .ref (b 11), .ref (b 12), .int 0, .int 0, .int 0, .ref (b 13), .ref (b 14), .ref (b 15), .int 0, .int 0, .int 0, .ref (b 16), .ref (b 17), .ref (b 18), .ref (b 19)])), (b 1, .inl (t 0, 841, .inl (fun _ => 0)))]) (QI (-2)) 0 0 NoF := by
  refine Met.ofW (cc := cX12_breaks) (maxL := 4) (ret := (some .int)) (by decide) rfl ?_
  intro p e s m args below meth c s₁ B hml hv
  obtain ⟨rfl, hP, hK, hN⟩ := hv
  have hx := B.exec
  have hb := B.bytes
  have hr := B.returns
  have hts : ∀ w ∈ TB, w.before _ s = true := fun w h => atoms_spec (ws := wd yX12_breaks cX12_breaks 4 (some .int)) B.pre w (List.mem_cons_of_mem _ h)
  have hown : s.vm.findClass RX12 = some m.cls := findClass_of_methodNamed B.named
  have hlocks := B.notSynchronized
  have hF : CallFix p m c cX12_breaks 4 s _ TB RX12 := ⟨hx, hb, hml, hown, hts⟩
  have hl := lv_entry ([.ref (b 0), .int x]) (n := 4) (Nat.le_of_ble_eq_true rfl)
  rw [lg_entry_eq]
  generalize (lg_sl ([.ref (b 0), .int x]) ++ List.replicate (4 - (lg_sl ([.ref (b 0), .int x])).length) Slot.unset).toArray = ls at hl ⊢
  have hl : lv_has ls 4 [(0, .ref (b 0)), (1, .int x)] := hl
  have hS : va_S NoF s.heap s.heap [] := va_S.rf
  have hP : va_P D classes [(b 0, .inr (12, [.int 0, .ref (b 1), .ref (b 2), .ref (b 3), .ref (b 4), .int 0, .ref (b 5), .int 0, .int 0, .int 0, .int 0, .int 0, .int 0, .int (-1), .ref (b 6), .int 0, .ref (b 7), .int 0, .int (-1), .int 0, .ref (b 8), .int 0, .ref (b 9), .int 0, .ref (b 10), .ref (b 11), .ref (b 12), .int 0, .int 0, .int 0, .ref (b 13), .ref (b 14), .ref (b 15), .int 0, .int 0, .int 0, .ref (b 16), .ref (b 17), .ref (b 18), .ref (b 19)])), (b 1, .inl (t 0, 841, .inl (fun _ => 0)))] s.heap := hP
  refine lv_aload_n hx hb dX12_breaks_0 rfl (lv_at hl 0 rfl) ?_
  refine lv_iload_n hx hb dX12_breaks_1 rfl (lv_at hl 1 rfl) ?_
  refine x_pV hF (c_X12_areParties l D t b x) m_1945 m_1947 m_s98 m_13 m_1948 hd_X12_areParties ⟨Nat.le_of_ble_eq_true rfl, Nat.le_of_ble_eq_true rfl⟩ hK hN hP hS [0, 1] rfl 0 (ci := 12) rfl rfl rfl hl.1 rfl (Nat.le_of_ble_eq_true rfl) dX12_breaks_2 ⟨Nat.zero_le _, Nat.zero_le _⟩ (fun H locs hP hS => ?_)
  refine lv_if_ne (tgt := 11) hx hb dX12_breaks_5 (by decide) (fun c9 => absurd c9 (by decide)) (fun _ => ?_)
  refine lv_bipush (v := (-2)) hx hb dX12_breaks_8 (by decide) ?_
  exact W.iret (v := (-2)) hx hb hr (fun t9 ht hW => ⟨⟨(-2), (), rfl, rfl, trivial⟩, hS.F ht⟩) hS.2.2 dX12_breaks_10

set_option maxHeartbeats 4000000 in
set_option maxRecDepth 100000 in
theorem c_X12_lists (l : Launch) (D : va_G) (t : Nat → ClassId) (b : Nat → Nat) (x : Int32) (y : Int32) : Met l yX12_lists (wd yX12_lists cX12_lists 7 (some .int)) (RM 3 0 0) (PreP D (TY t) [.ref (b 0), .int x, .int y] [(b 0, .inr (12, [.int 0, .ref (b 1), .ref (b 2), .ref (b 3), .ref (b 4), .int 0, .ref (b 5), .int 0, .int 0, .int 0, .int 0, .int 0, .int 0, .int (-1), .ref (b 6), .int 0, .ref (b 7), .int 0, .int (-1), .int 0, .ref (b 8), .int 0, .ref (b 9), .int 0, .ref (b 10), .ref (b 11), .ref (b 12), .int 0, .int 0, .int 0, .ref (b 13), .ref (b 14), .ref (b 15), .int 0, .int 0, .int 0, .ref (b 16), .ref (b 17), .ref (b 18), .ref (b 19)])), (b 1, .inl (t 0, 841, .inl (fun _ => 0)))]) (QI (-2)) 0 0 NoF := by
  refine Met.ofW (cc := cX12_lists) (maxL := 7) (ret := (some .int)) (by decide) rfl ?_
  intro p e s m args below meth c s₁ B hml hv
  obtain ⟨rfl, hP, hK, hN⟩ := hv
  have hx := B.exec
  have hb := B.bytes
  have hr := B.returns
  have hts : ∀ w ∈ TB, w.before _ s = true := fun w h => atoms_spec (ws := wd yX12_lists cX12_lists 7 (some .int)) B.pre w (List.mem_cons_of_mem _ h)
  have hown : s.vm.findClass RX12 = some m.cls := findClass_of_methodNamed B.named
  have hlocks := B.notSynchronized
  have hF : CallFix p m c cX12_lists 7 s _ TB RX12 := ⟨hx, hb, hml, hown, hts⟩
  have hl := lv_entry ([.ref (b 0), .int x, .int y]) (n := 7) (Nat.le_of_ble_eq_true rfl)
  rw [lg_entry_eq]
  generalize (lg_sl ([.ref (b 0), .int x, .int y]) ++ List.replicate (7 - (lg_sl ([.ref (b 0), .int x, .int y])).length) Slot.unset).toArray = ls at hl ⊢
  have hl : lv_has ls 7 [(0, .ref (b 0)), (1, .int x), (2, .int y)] := hl
  have hS : va_S NoF s.heap s.heap [] := va_S.rf
  have hP : va_P D classes [(b 0, .inr (12, [.int 0, .ref (b 1), .ref (b 2), .ref (b 3), .ref (b 4), .int 0, .ref (b 5), .int 0, .int 0, .int 0, .int 0, .int 0, .int 0, .int (-1), .ref (b 6), .int 0, .ref (b 7), .int 0, .int (-1), .int 0, .ref (b 8), .int 0, .ref (b 9), .int 0, .ref (b 10), .ref (b 11), .ref (b 12), .int 0, .int 0, .int 0, .ref (b 13), .ref (b 14), .ref (b 15), .int 0, .int 0, .int 0, .ref (b 16), .ref (b 17), .ref (b 18), .ref (b 19)])), (b 1, .inl (t 0, 841, .inl (fun _ => 0)))] s.heap := hP
  refine lv_aload_n hx hb dX12_lists_0 rfl (lv_at hl 0 rfl) ?_
  refine x_pV hF (c_X12_isChamber l D t b) m_1766 m_1768 m_s81 m_13 m_1769 hd_X12_isChamber ⟨Nat.le_of_ble_eq_true rfl, Nat.le_of_ble_eq_true rfl⟩ hK hN hP hS [0, 1] rfl 0 (ci := 12) rfl rfl rfl hl.1 rfl (Nat.le_of_ble_eq_true rfl) dX12_lists_1 ⟨Nat.zero_le _, Nat.zero_le _⟩ (fun H locs hP hS => ?_)
  refine lv_if_eq (tgt := 26) hx hb dX12_lists_4 (by decide) (fun _ => ?_) (fun c9 => absurd (by decide) c9)
  refine lv_bipush (v := (-2)) hx hb dX12_lists_26 (by decide) ?_
  exact W.iret (v := (-2)) hx hb hr (fun t9 ht hW => ⟨⟨(-2), (), rfl, rfl, trivial⟩, hS.F ht⟩) hS.2.2 dX12_lists_28

set_option maxHeartbeats 4000000 in
set_option maxRecDepth 100000 in
theorem c_X12_rigged (l : Launch) (D : va_G) (t : Nat → ClassId) (b : Nat → Nat) (x : Int32) : Met l yX12_rigged (wd yX12_rigged cX12_rigged 2 (some .int)) (RM 3 0 0) (PreP D (TY t) [.ref (b 0), .int x] [(b 0, .inr (12, [.int 0, .ref (b 1), .ref (b 2), .ref (b 3), .ref (b 4), .int 0, .ref (b 5), .int 0, .int 0, .int 0, .int 0, .int 0, .int 0, .int (-1), .ref (b 6), .int 0, .ref (b 7), .int 0, .int (-1), .int 0, .ref (b 8), .int 0, .ref (b 9), .int 0, .ref (b 10), .ref (b 11), .ref (b 12), .int 0, .int 0, .int 0, .ref (b 13), .ref (b 14), .ref (b 15), .int 0, .int 0, .int 0, .ref (b 16), .ref (b 17), .ref (b 18), .ref (b 19)])), (b 1, .inl (t 0, 841, .inl (fun _ => 0)))]) (QI (-2)) 0 0 NoF := by
  refine Met.ofW (cc := cX12_rigged) (maxL := 2) (ret := (some .int)) (by decide) rfl ?_
  intro p e s m args below meth c s₁ B hml hv
  obtain ⟨rfl, hP, hK, hN⟩ := hv
  have hx := B.exec
  have hb := B.bytes
  have hr := B.returns
  have hts : ∀ w ∈ TB, w.before _ s = true := fun w h => atoms_spec (ws := wd yX12_rigged cX12_rigged 2 (some .int)) B.pre w (List.mem_cons_of_mem _ h)
  have hown : s.vm.findClass RX12 = some m.cls := findClass_of_methodNamed B.named
  have hlocks := B.notSynchronized
  have hF : CallFix p m c cX12_rigged 2 s _ TB RX12 := ⟨hx, hb, hml, hown, hts⟩
  have hl := lv_entry ([.ref (b 0), .int x]) (n := 2) (Nat.le_of_ble_eq_true rfl)
  rw [lg_entry_eq]
  generalize (lg_sl ([.ref (b 0), .int x]) ++ List.replicate (2 - (lg_sl ([.ref (b 0), .int x])).length) Slot.unset).toArray = ls at hl ⊢
  have hl : lv_has ls 2 [(0, .ref (b 0)), (1, .int x)] := hl
  have hS : va_S NoF s.heap s.heap [] := va_S.rf
  have hP : va_P D classes [(b 0, .inr (12, [.int 0, .ref (b 1), .ref (b 2), .ref (b 3), .ref (b 4), .int 0, .ref (b 5), .int 0, .int 0, .int 0, .int 0, .int 0, .int 0, .int (-1), .ref (b 6), .int 0, .ref (b 7), .int 0, .int (-1), .int 0, .ref (b 8), .int 0, .ref (b 9), .int 0, .ref (b 10), .ref (b 11), .ref (b 12), .int 0, .int 0, .int 0, .ref (b 13), .ref (b 14), .ref (b 15), .int 0, .int 0, .int 0, .ref (b 16), .ref (b 17), .ref (b 18), .ref (b 19)])), (b 1, .inl (t 0, 841, .inl (fun _ => 0)))] s.heap := hP
  refine lv_iload_n hx hb dX12_rigged_0 rfl (lv_at hl 1 rfl) ?_
  refine x_pS hF (c_X12_isParty l D t x) m_1934 m_1935 m_13 m_1936 hd_X12_isParty ⟨Nat.le_of_ble_eq_true rfl, Nat.le_of_ble_eq_true rfl⟩ hK hN hP hS [] rfl hl.1 rfl (Nat.le_of_ble_eq_true rfl) dX12_rigged_1 ⟨Nat.zero_le _, Nat.zero_le _⟩ (fun H locs hP hS => ?_)
  refine lv_if_eq (tgt := 16) hx hb dX12_rigged_4 (by decide) (fun c_1 => ?_) (fun c_1 => ?_)
  · refine lv_bipush (v := (-2)) hx hb dX12_rigged_16 (by decide) ?_
    exact W.iret (v := (-2)) hx hb hr (fun t9 ht hW => ⟨⟨(-2), (), rfl, rfl, trivial⟩, hS.F ht⟩) hS.2.2 dX12_rigged_18
  · refine lv_aload_n hx hb dX12_rigged_7 rfl (lv_at hl 0 rfl) ?_
    refine va_get (D := D) (ci := 12) (v := .ref (b 1)) (C := RX12) (T := TX12) (N := 40) hx hb hts iX12 hown hK hP 0 rfl rfl 1 (by decide) (hts _ m_1344) (fun _ h9 => h9) rfl dX12_rigged_8 ?_
    refine lv_iconst (v := 4) hx hb dX12_rigged_11 (by decide) ?_
    refine va_iald hx hb hK hP 1 0 rfl rfl (vp_in_nI (n := 4) (by decide) (by decide)) dX12_rigged_12 ?_
    refine x_seti 0 rfl ?_
    refine lv_if_ne (tgt := 19) hx hb dX12_rigged_13 (by decide) (fun c9 => absurd c9 (by decide)) (fun _ => ?_)
    refine lv_bipush (v := (-2)) hx hb dX12_rigged_16 (by decide) ?_
    exact W.iret (v := (-2)) hx hb hr (fun t9 ht hW => ⟨⟨(-2), (), rfl, rfl, trivial⟩, hS.F ht⟩) hS.2.2 dX12_rigged_18

set_option maxHeartbeats 4000000 in
set_option maxRecDepth 100000 in
theorem c_X12_put (l : Launch) (D : va_G) (t : Nat → ClassId) (b : Nat → Nat) (x : Int32) (y : Int32) : Met l yX12_put (wd yX12_put cX12_put 3 (some .int)) (RM 3 0 0) (PreP D (TY t) [.ref (b 0), .int x, .int y] [(b 0, .inr (12, [.int 0, .ref (b 1), .ref (b 2), .ref (b 3), .ref (b 4), .int 0, .ref (b 5), .int 0, .int 0, .int 0, .int 0, .int 0, .int 0, .int (-1), .ref (b 6), .int 0, .ref (b 7), .int 0, .int (-1), .int 0, .ref (b 8), .int 0, .ref (b 9), .int 0, .ref (b 10), .ref (b 11), .ref (b 12), .int 0, .int 0, .int 0, .ref (b 13), .ref (b 14), .ref (b 15), .int 0, .int 0, .int 0, .ref (b 16), .ref (b 17), .ref (b 18), .ref (b 19)])), (b 1, .inl (t 0, 841, .inl (fun _ => 0)))]) (QI (-2)) 0 0 NoF := by
  refine Met.ofW (cc := cX12_put) (maxL := 3) (ret := (some .int)) (by decide) rfl ?_
  intro p e s m args below meth c s₁ B hml hv
  obtain ⟨rfl, hP, hK, hN⟩ := hv
  have hx := B.exec
  have hb := B.bytes
  have hr := B.returns
  have hts : ∀ w ∈ TB, w.before _ s = true := fun w h => atoms_spec (ws := wd yX12_put cX12_put 3 (some .int)) B.pre w (List.mem_cons_of_mem _ h)
  have hown : s.vm.findClass RX12 = some m.cls := findClass_of_methodNamed B.named
  have hlocks := B.notSynchronized
  have hF : CallFix p m c cX12_put 3 s _ TB RX12 := ⟨hx, hb, hml, hown, hts⟩
  have hl := lv_entry ([.ref (b 0), .int x, .int y]) (n := 3) (Nat.le_of_ble_eq_true rfl)
  rw [lg_entry_eq]
  generalize (lg_sl ([.ref (b 0), .int x, .int y]) ++ List.replicate (3 - (lg_sl ([.ref (b 0), .int x, .int y])).length) Slot.unset).toArray = ls at hl ⊢
  have hl : lv_has ls 3 [(0, .ref (b 0)), (1, .int x), (2, .int y)] := hl
  have hS : va_S NoF s.heap s.heap [] := va_S.rf
  have hP : va_P D classes [(b 0, .inr (12, [.int 0, .ref (b 1), .ref (b 2), .ref (b 3), .ref (b 4), .int 0, .ref (b 5), .int 0, .int 0, .int 0, .int 0, .int 0, .int 0, .int (-1), .ref (b 6), .int 0, .ref (b 7), .int 0, .int (-1), .int 0, .ref (b 8), .int 0, .ref (b 9), .int 0, .ref (b 10), .ref (b 11), .ref (b 12), .int 0, .int 0, .int 0, .ref (b 13), .ref (b 14), .ref (b 15), .int 0, .int 0, .int 0, .ref (b 16), .ref (b 17), .ref (b 18), .ref (b 19)])), (b 1, .inl (t 0, 841, .inl (fun _ => 0)))] s.heap := hP
  refine lv_iload_n hx hb dX12_put_0 rfl (lv_at hl 1 rfl) ?_
  refine x_pS hF (c_X12_isParty l D t x) m_1934 m_1935 m_13 m_1936 hd_X12_isParty ⟨Nat.le_of_ble_eq_true rfl, Nat.le_of_ble_eq_true rfl⟩ hK hN hP hS [] rfl hl.1 rfl (Nat.le_of_ble_eq_true rfl) dX12_put_1 ⟨Nat.zero_le _, Nat.zero_le _⟩ (fun H locs hP hS => ?_)
  refine lv_if_eq (tgt := 24) hx hb dX12_put_4 (by decide) (fun c_1 => ?_) (fun c_1 => ?_)
  · refine lv_bipush (v := (-2)) hx hb dX12_put_24 (by decide) ?_
    exact W.iret (v := (-2)) hx hb hr (fun t9 ht hW => ⟨⟨(-2), (), rfl, rfl, trivial⟩, hS.F ht⟩) hS.2.2 dX12_put_26
  · refine lv_aload_n hx hb dX12_put_7 rfl (lv_at hl 0 rfl) ?_
    refine va_get (D := D) (ci := 12) (v := .ref (b 1)) (C := RX12) (T := TX12) (N := 40) hx hb hts iX12 hown hK hP 0 rfl rfl 1 (by decide) (hts _ m_1344) (fun _ h9 => h9) rfl dX12_put_8 ?_
    refine lv_iconst (v := 4) hx hb dX12_put_11 (by decide) ?_
    refine va_iald hx hb hK hP 1 0 rfl rfl (vp_in_nI (n := 4) (by decide) (by decide)) dX12_put_12 ?_
    refine x_seti 0 rfl ?_
    refine lv_if_eq (tgt := 24) hx hb dX12_put_13 (by decide) (fun _ => ?_) (fun c9 => absurd (by decide) c9)
    refine lv_bipush (v := (-2)) hx hb dX12_put_24 (by decide) ?_
    exact W.iret (v := (-2)) hx hb hr (fun t9 ht hW => ⟨⟨(-2), (), rfl, rfl, trivial⟩, hS.F ht⟩) hS.2.2 dX12_put_26

set_option maxHeartbeats 4000000 in
set_option maxRecDepth 100000 in
theorem c_X12_stand (l : Launch) (D : va_G) (t : Nat → ClassId) (b : Nat → Nat) (x : Int32) (y : Int32) : Met l yX12_stand (wd yX12_stand cX12_stand 4 (some .int)) (RM 3 0 0) (PreP D (TY t) [.ref (b 0), .int x, .int y] [(b 0, .inr (12, [.int 0, .ref (b 1), .ref (b 2), .ref (b 3), .ref (b 4), .int 0, .ref (b 5), .int 0, .int 0, .int 0, .int 0, .int 0, .int 0, .int (-1), .ref (b 6), .int 0, .ref (b 7), .int 0, .int (-1), .int 0, .ref (b 8), .int 0, .ref (b 9), .int 0, .ref (b 10), .ref (b 11), .ref (b 12), .int 0, .int 0, .int 0, .ref (b 13), .ref (b 14), .ref (b 15), .int 0, .int 0, .int 0, .ref (b 16), .ref (b 17), .ref (b 18), .ref (b 19)])), (b 1, .inl (t 0, 841, .inl (fun _ => 0)))]) (QI (-2)) 0 0 NoF := by
  refine Met.ofW (cc := cX12_stand) (maxL := 4) (ret := (some .int)) (by decide) rfl ?_
  intro p e s m args below meth c s₁ B hml hv
  obtain ⟨rfl, hP, hK, hN⟩ := hv
  have hx := B.exec
  have hb := B.bytes
  have hr := B.returns
  have hts : ∀ w ∈ TB, w.before _ s = true := fun w h => atoms_spec (ws := wd yX12_stand cX12_stand 4 (some .int)) B.pre w (List.mem_cons_of_mem _ h)
  have hown : s.vm.findClass RX12 = some m.cls := findClass_of_methodNamed B.named
  have hlocks := B.notSynchronized
  have hF : CallFix p m c cX12_stand 4 s _ TB RX12 := ⟨hx, hb, hml, hown, hts⟩
  have hl := lv_entry ([.ref (b 0), .int x, .int y]) (n := 4) (Nat.le_of_ble_eq_true rfl)
  rw [lg_entry_eq]
  generalize (lg_sl ([.ref (b 0), .int x, .int y]) ++ List.replicate (4 - (lg_sl ([.ref (b 0), .int x, .int y])).length) Slot.unset).toArray = ls at hl ⊢
  have hl : lv_has ls 4 [(0, .ref (b 0)), (1, .int x), (2, .int y)] := hl
  have hS : va_S NoF s.heap s.heap [] := va_S.rf
  have hP : va_P D classes [(b 0, .inr (12, [.int 0, .ref (b 1), .ref (b 2), .ref (b 3), .ref (b 4), .int 0, .ref (b 5), .int 0, .int 0, .int 0, .int 0, .int 0, .int 0, .int (-1), .ref (b 6), .int 0, .ref (b 7), .int 0, .int (-1), .int 0, .ref (b 8), .int 0, .ref (b 9), .int 0, .ref (b 10), .ref (b 11), .ref (b 12), .int 0, .int 0, .int 0, .ref (b 13), .ref (b 14), .ref (b 15), .int 0, .int 0, .int 0, .ref (b 16), .ref (b 17), .ref (b 18), .ref (b 19)])), (b 1, .inl (t 0, 841, .inl (fun _ => 0)))] s.heap := hP
  refine lv_aload_n hx hb dX12_stand_0 rfl (lv_at hl 0 rfl) ?_
  refine lv_iload_n hx hb dX12_stand_1 rfl (lv_at hl 1 rfl) ?_
  refine lv_i2l hx hb dX12_stand_2 rfl ?_
  refine x_pV hF (c_X12_isWord l D t b x.toInt64) m_1607 m_1609 m_s57 m_13 m_1610 hd_X12_isWord ⟨Nat.le_of_ble_eq_true rfl, Nat.le_of_ble_eq_true rfl⟩ hK hN hP hS [0, 1] rfl 0 (ci := 12) rfl rfl rfl hl.1 rfl (Nat.le_of_ble_eq_true rfl) dX12_stand_3 ⟨Nat.zero_le _, Nat.zero_le _⟩ (fun H locs hP hS => ?_)
  refine lv_if_eq (tgt := 17) hx hb dX12_stand_6 (by decide) (fun _ => ?_) (fun c9 => absurd (by decide) c9)
  refine lv_bipush (v := (-2)) hx hb dX12_stand_17 (by decide) ?_
  exact W.iret (v := (-2)) hx hb hr (fun t9 ht hW => ⟨⟨(-2), (), rfl, rfl, trivial⟩, hS.F ht⟩) hS.2.2 dX12_stand_19

set_option maxHeartbeats 4000000 in
set_option maxRecDepth 100000 in
theorem c_X12_need (l : Launch) (D : va_G) (t : Nat → ClassId) (b : Nat → Nat) (x : Int32) (y : Int32) : Met l yX12_need (wd yX12_need cX12_need 4 (some .int)) (RM 3 0 0) (PreP D (TY t) [.ref (b 0), .int x, .int y] [(b 0, .inr (12, [.int 0, .ref (b 1), .ref (b 2), .ref (b 3), .ref (b 4), .int 0, .ref (b 5), .int 0, .int 0, .int 0, .int 0, .int 0, .int 0, .int (-1), .ref (b 6), .int 0, .ref (b 7), .int 0, .int (-1), .int 0, .ref (b 8), .int 0, .ref (b 9), .int 0, .ref (b 10), .ref (b 11), .ref (b 12), .int 0, .int 0, .int 0, .ref (b 13), .ref (b 14), .ref (b 15), .int 0, .int 0, .int 0, .ref (b 16), .ref (b 17), .ref (b 18), .ref (b 19)])), (b 1, .inl (t 0, 841, .inl (fun _ => 0)))]) (QI (-2)) 0 0 NoF := by
  refine Met.ofW (cc := cX12_need) (maxL := 4) (ret := (some .int)) (by decide) rfl ?_
  intro p e s m args below meth c s₁ B hml hv
  obtain ⟨rfl, hP, hK, hN⟩ := hv
  have hx := B.exec
  have hb := B.bytes
  have hr := B.returns
  have hts : ∀ w ∈ TB, w.before _ s = true := fun w h => atoms_spec (ws := wd yX12_need cX12_need 4 (some .int)) B.pre w (List.mem_cons_of_mem _ h)
  have hown : s.vm.findClass RX12 = some m.cls := findClass_of_methodNamed B.named
  have hlocks := B.notSynchronized
  have hF : CallFix p m c cX12_need 4 s _ TB RX12 := ⟨hx, hb, hml, hown, hts⟩
  have hl := lv_entry ([.ref (b 0), .int x, .int y]) (n := 4) (Nat.le_of_ble_eq_true rfl)
  rw [lg_entry_eq]
  generalize (lg_sl ([.ref (b 0), .int x, .int y]) ++ List.replicate (4 - (lg_sl ([.ref (b 0), .int x, .int y])).length) Slot.unset).toArray = ls at hl ⊢
  have hl : lv_has ls 4 [(0, .ref (b 0)), (1, .int x), (2, .int y)] := hl
  have hS : va_S NoF s.heap s.heap [] := va_S.rf
  have hP : va_P D classes [(b 0, .inr (12, [.int 0, .ref (b 1), .ref (b 2), .ref (b 3), .ref (b 4), .int 0, .ref (b 5), .int 0, .int 0, .int 0, .int 0, .int 0, .int 0, .int (-1), .ref (b 6), .int 0, .ref (b 7), .int 0, .int (-1), .int 0, .ref (b 8), .int 0, .ref (b 9), .int 0, .ref (b 10), .ref (b 11), .ref (b 12), .int 0, .int 0, .int 0, .ref (b 13), .ref (b 14), .ref (b 15), .int 0, .int 0, .int 0, .ref (b 16), .ref (b 17), .ref (b 18), .ref (b 19)])), (b 1, .inl (t 0, 841, .inl (fun _ => 0)))] s.heap := hP
  refine lv_aload_n hx hb dX12_need_0 rfl (lv_at hl 0 rfl) ?_
  refine lv_iload_n hx hb dX12_need_1 rfl (lv_at hl 1 rfl) ?_
  refine x_pV hF (c_X12_isSpeaker l D t b x) m_1623 m_1625 m_s59 m_13 m_1626 hd_X12_isSpeaker ⟨Nat.le_of_ble_eq_true rfl, Nat.le_of_ble_eq_true rfl⟩ hK hN hP hS [0, 1] rfl 0 (ci := 12) rfl rfl rfl hl.1 rfl (Nat.le_of_ble_eq_true rfl) dX12_need_2 ⟨Nat.zero_le _, Nat.zero_le _⟩ (fun H locs hP hS => ?_)
  refine lv_if_eq (tgt := 20) hx hb dX12_need_5 (by decide) (fun _ => ?_) (fun c9 => absurd (by decide) c9)
  refine lv_bipush (v := (-2)) hx hb dX12_need_20 (by decide) ?_
  exact W.iret (v := (-2)) hx hb hr (fun t9 ht hW => ⟨⟨(-2), (), rfl, rfl, trivial⟩, hS.F ht⟩) hS.2.2 dX12_need_22

set_option maxHeartbeats 4000000 in
set_option maxRecDepth 100000 in
theorem c_X12_bill (l : Launch) (D : va_G) (t : Nat → ClassId) (b : Nat → Nat) (x : Int32) (y : Int32) : Met l yX12_bill (wd yX12_bill cX12_bill 4 (some .int)) (RM 3 0 0) (PreP D (TY t) [.ref (b 0), .int x, .int y] [(b 0, .inr (12, [.int 0, .ref (b 1), .ref (b 2), .ref (b 3), .ref (b 4), .int 0, .ref (b 5), .int 0, .int 0, .int 0, .int 0, .int 0, .int 0, .int (-1), .ref (b 6), .int 0, .ref (b 7), .int 0, .int (-1), .int 0, .ref (b 8), .int 0, .ref (b 9), .int 0, .ref (b 10), .ref (b 11), .ref (b 12), .int 0, .int 0, .int 0, .ref (b 13), .ref (b 14), .ref (b 15), .int 0, .int 0, .int 0, .ref (b 16), .ref (b 17), .ref (b 18), .ref (b 19)])), (b 1, .inl (t 0, 841, .inl (fun _ => 0)))]) (QI (-2)) 0 0 NoF := by
  refine Met.ofW (cc := cX12_bill) (maxL := 4) (ret := (some .int)) (by decide) rfl ?_
  intro p e s m args below meth c s₁ B hml hv
  obtain ⟨rfl, hP, hK, hN⟩ := hv
  have hx := B.exec
  have hb := B.bytes
  have hr := B.returns
  have hts : ∀ w ∈ TB, w.before _ s = true := fun w h => atoms_spec (ws := wd yX12_bill cX12_bill 4 (some .int)) B.pre w (List.mem_cons_of_mem _ h)
  have hown : s.vm.findClass RX12 = some m.cls := findClass_of_methodNamed B.named
  have hlocks := B.notSynchronized
  have hF : CallFix p m c cX12_bill 4 s _ TB RX12 := ⟨hx, hb, hml, hown, hts⟩
  have hl := lv_entry ([.ref (b 0), .int x, .int y]) (n := 4) (Nat.le_of_ble_eq_true rfl)
  rw [lg_entry_eq]
  generalize (lg_sl ([.ref (b 0), .int x, .int y]) ++ List.replicate (4 - (lg_sl ([.ref (b 0), .int x, .int y])).length) Slot.unset).toArray = ls at hl ⊢
  have hl : lv_has ls 4 [(0, .ref (b 0)), (1, .int x), (2, .int y)] := hl
  have hS : va_S NoF s.heap s.heap [] := va_S.rf
  have hP : va_P D classes [(b 0, .inr (12, [.int 0, .ref (b 1), .ref (b 2), .ref (b 3), .ref (b 4), .int 0, .ref (b 5), .int 0, .int 0, .int 0, .int 0, .int 0, .int 0, .int (-1), .ref (b 6), .int 0, .ref (b 7), .int 0, .int (-1), .int 0, .ref (b 8), .int 0, .ref (b 9), .int 0, .ref (b 10), .ref (b 11), .ref (b 12), .int 0, .int 0, .int 0, .ref (b 13), .ref (b 14), .ref (b 15), .int 0, .int 0, .int 0, .ref (b 16), .ref (b 17), .ref (b 18), .ref (b 19)])), (b 1, .inl (t 0, 841, .inl (fun _ => 0)))] s.heap := hP
  refine lv_aload_n hx hb dX12_bill_0 rfl (lv_at hl 0 rfl) ?_
  refine x_pV hF (c_X12_isChamber l D t b) m_1766 m_1768 m_s81 m_13 m_1769 hd_X12_isChamber ⟨Nat.le_of_ble_eq_true rfl, Nat.le_of_ble_eq_true rfl⟩ hK hN hP hS [0, 1] rfl 0 (ci := 12) rfl rfl rfl hl.1 rfl (Nat.le_of_ble_eq_true rfl) dX12_bill_1 ⟨Nat.zero_le _, Nat.zero_le _⟩ (fun H locs hP hS => ?_)
  refine lv_if_eq (tgt := 61) hx hb dX12_bill_4 (by decide) (fun _ => ?_) (fun c9 => absurd (by decide) c9)
  refine lv_bipush (v := (-2)) hx hb dX12_bill_61 (by decide) ?_
  exact W.iret (v := (-2)) hx hb hr (fun t9 ht hW => ⟨⟨(-2), (), rfl, rfl, trivial⟩, hS.F ht⟩) hS.2.2 dX12_bill_63

set_option maxHeartbeats 4000000 in
set_option maxRecDepth 100000 in
theorem c_X12_drawn (l : Launch) (D : va_G) (t : Nat → ClassId) (b : Nat → Nat) (x : Int32) (y : Int32) : Met l yX12_drawn (wd yX12_drawn cX12_drawn 3 (some .int)) (RM 3 0 0) (PreP D (TY t) [.ref (b 0), .int x, .int y] [(b 0, .inr (12, [.int 0, .ref (b 1), .ref (b 2), .ref (b 3), .ref (b 4), .int 0, .ref (b 5), .int 0, .int 0, .int 0, .int 0, .int 0, .int 0, .int (-1), .ref (b 6), .int 0, .ref (b 7), .int 0, .int (-1), .int 0, .ref (b 8), .int 0, .ref (b 9), .int 0, .ref (b 10), .ref (b 11), .ref (b 12), .int 0, .int 0, .int 0, .ref (b 13), .ref (b 14), .ref (b 15), .int 0, .int 0, .int 0, .ref (b 16), .ref (b 17), .ref (b 18), .ref (b 19)])), (b 1, .inl (t 0, 841, .inl (fun _ => 0)))]) (QI (-2)) 0 0 NoF := by
  refine Met.ofW (cc := cX12_drawn) (maxL := 3) (ret := (some .int)) (by decide) rfl ?_
  intro p e s m args below meth c s₁ B hml hv
  obtain ⟨rfl, hP, hK, hN⟩ := hv
  have hx := B.exec
  have hb := B.bytes
  have hr := B.returns
  have hts : ∀ w ∈ TB, w.before _ s = true := fun w h => atoms_spec (ws := wd yX12_drawn cX12_drawn 3 (some .int)) B.pre w (List.mem_cons_of_mem _ h)
  have hown : s.vm.findClass RX12 = some m.cls := findClass_of_methodNamed B.named
  have hlocks := B.notSynchronized
  have hF : CallFix p m c cX12_drawn 3 s _ TB RX12 := ⟨hx, hb, hml, hown, hts⟩
  have hl := lv_entry ([.ref (b 0), .int x, .int y]) (n := 3) (Nat.le_of_ble_eq_true rfl)
  rw [lg_entry_eq]
  generalize (lg_sl ([.ref (b 0), .int x, .int y]) ++ List.replicate (3 - (lg_sl ([.ref (b 0), .int x, .int y])).length) Slot.unset).toArray = ls at hl ⊢
  have hl : lv_has ls 3 [(0, .ref (b 0)), (1, .int x), (2, .int y)] := hl
  have hS : va_S NoF s.heap s.heap [] := va_S.rf
  have hP : va_P D classes [(b 0, .inr (12, [.int 0, .ref (b 1), .ref (b 2), .ref (b 3), .ref (b 4), .int 0, .ref (b 5), .int 0, .int 0, .int 0, .int 0, .int 0, .int 0, .int (-1), .ref (b 6), .int 0, .ref (b 7), .int 0, .int (-1), .int 0, .ref (b 8), .int 0, .ref (b 9), .int 0, .ref (b 10), .ref (b 11), .ref (b 12), .int 0, .int 0, .int 0, .ref (b 13), .ref (b 14), .ref (b 15), .int 0, .int 0, .int 0, .ref (b 16), .ref (b 17), .ref (b 18), .ref (b 19)])), (b 1, .inl (t 0, 841, .inl (fun _ => 0)))] s.heap := hP
  refine lv_iload_n hx hb dX12_drawn_0 rfl (lv_at hl 1 rfl) ?_
  refine x_pS hF (c_X12_isSeed l D t x) m_2042 m_2043 m_13 m_2044 hd_X12_isSeed ⟨Nat.le_of_ble_eq_true rfl, Nat.le_of_ble_eq_true rfl⟩ hK hN hP hS [] rfl hl.1 rfl (Nat.le_of_ble_eq_true rfl) dX12_drawn_1 ⟨Nat.zero_le _, Nat.zero_le _⟩ (fun H locs hP hS => ?_)
  refine lv_if_eq (tgt := 25) hx hb dX12_drawn_4 (by decide) (fun c_1 => ?_) (fun c_1 => ?_)
  · refine lv_bipush (v := (-2)) hx hb dX12_drawn_25 (by decide) ?_
    exact W.iret (v := (-2)) hx hb hr (fun t9 ht hW => ⟨⟨(-2), (), rfl, rfl, trivial⟩, hS.F ht⟩) hS.2.2 dX12_drawn_27
  · refine lv_aload_n hx hb dX12_drawn_7 rfl (lv_at hl 0 rfl) ?_
    refine lv_iload_n hx hb dX12_drawn_8 rfl (lv_at hl 2 rfl) ?_
    refine x_pV hF (c_X12_isDistrict l D t b y) m_1636 m_1638 m_s61 m_13 m_1639 hd_X12_isDistrict ⟨Nat.le_of_ble_eq_true rfl, Nat.le_of_ble_eq_true rfl⟩ hK hN hP hS [0, 1] rfl 0 (ci := 12) rfl rfl rfl hl.1 rfl (Nat.le_of_ble_eq_true rfl) dX12_drawn_9 ⟨Nat.zero_le _, Nat.zero_le _⟩ (fun H locs hP hS => ?_)
    refine lv_if_eq (tgt := 25) hx hb dX12_drawn_12 (by decide) (fun _ => ?_) (fun c9 => absurd (by decide) c9)
    refine lv_bipush (v := (-2)) hx hb dX12_drawn_25 (by decide) ?_
    exact W.iret (v := (-2)) hx hb hr (fun t9 ht hW => ⟨⟨(-2), (), rfl, rfl, trivial⟩, hS.F ht⟩) hS.2.2 dX12_drawn_27

set_option maxHeartbeats 4000000 in
set_option maxRecDepth 100000 in
theorem c_X12_years (l : Launch) (D : va_G) (t : Nat → ClassId) (b : Nat → Nat) (x : Int32) (y : Int32) (z : Int32) : Met l yX12_years (wd yX12_years cX12_years 6 (some .int)) (RM 3 0 0) (PreP D (TY t) [.ref (b 0), .int x, .int y, .int z] [(b 0, .inr (12, [.int 0, .ref (b 1), .ref (b 2), .ref (b 3), .ref (b 4), .int 0, .ref (b 5), .int 0, .int 0, .int 0, .int 0, .int 0, .int 0, .int (-1), .ref (b 6), .int 0, .ref (b 7), .int 0, .int (-1), .int 0, .ref (b 8), .int 0, .ref (b 9), .int 0, .ref (b 10), .ref (b 11), .ref (b 12), .int 0, .int 0, .int 0, .ref (b 13), .ref (b 14), .ref (b 15), .int 0, .int 0, .int 0, .ref (b 16), .ref (b 17), .ref (b 18), .ref (b 19)])), (b 1, .inl (t 0, 841, .inl (fun _ => 0)))]) (QI (-2)) 0 0 NoF := by
  refine Met.ofW (cc := cX12_years) (maxL := 6) (ret := (some .int)) (by decide) rfl ?_
  intro p e s m args below meth c s₁ B hml hv
  obtain ⟨rfl, hP, hK, hN⟩ := hv
  have hx := B.exec
  have hb := B.bytes
  have hr := B.returns
  have hts : ∀ w ∈ TB, w.before _ s = true := fun w h => atoms_spec (ws := wd yX12_years cX12_years 6 (some .int)) B.pre w (List.mem_cons_of_mem _ h)
  have hown : s.vm.findClass RX12 = some m.cls := findClass_of_methodNamed B.named
  have hlocks := B.notSynchronized
  have hF : CallFix p m c cX12_years 6 s _ TB RX12 := ⟨hx, hb, hml, hown, hts⟩
  have hl := lv_entry ([.ref (b 0), .int x, .int y, .int z]) (n := 6) (Nat.le_of_ble_eq_true rfl)
  rw [lg_entry_eq]
  generalize (lg_sl ([.ref (b 0), .int x, .int y, .int z]) ++ List.replicate (6 - (lg_sl ([.ref (b 0), .int x, .int y, .int z])).length) Slot.unset).toArray = ls at hl ⊢
  have hl : lv_has ls 6 [(0, .ref (b 0)), (1, .int x), (2, .int y), (3, .int z)] := hl
  have hS : va_S NoF s.heap s.heap [] := va_S.rf
  have hP : va_P D classes [(b 0, .inr (12, [.int 0, .ref (b 1), .ref (b 2), .ref (b 3), .ref (b 4), .int 0, .ref (b 5), .int 0, .int 0, .int 0, .int 0, .int 0, .int 0, .int (-1), .ref (b 6), .int 0, .ref (b 7), .int 0, .int (-1), .int 0, .ref (b 8), .int 0, .ref (b 9), .int 0, .ref (b 10), .ref (b 11), .ref (b 12), .int 0, .int 0, .int 0, .ref (b 13), .ref (b 14), .ref (b 15), .int 0, .int 0, .int 0, .ref (b 16), .ref (b 17), .ref (b 18), .ref (b 19)])), (b 1, .inl (t 0, 841, .inl (fun _ => 0)))] s.heap := hP
  refine lv_iload_n hx hb dX12_years_0 rfl (lv_at hl 1 rfl) ?_
  refine x_pS hF (c_X12_isSeed l D t x) m_2042 m_2043 m_13 m_2044 hd_X12_isSeed ⟨Nat.le_of_ble_eq_true rfl, Nat.le_of_ble_eq_true rfl⟩ hK hN hP hS [] rfl hl.1 rfl (Nat.le_of_ble_eq_true rfl) dX12_years_1 ⟨Nat.zero_le _, Nat.zero_le _⟩ (fun H locs hP hS => ?_)
  refine lv_if_eq (tgt := 28) hx hb dX12_years_4 (by decide) (fun c_1 => ?_) (fun c_1 => ?_)
  · refine lv_bipush (v := (-2)) hx hb dX12_years_28 (by decide) ?_
    exact W.iret (v := (-2)) hx hb hr (fun t9 ht hW => ⟨⟨(-2), (), rfl, rfl, trivial⟩, hS.F ht⟩) hS.2.2 dX12_years_30
  · refine lv_iload_n hx hb dX12_years_7 rfl (lv_at hl 2 rfl) ?_
    refine lv_i2l hx hb dX12_years_8 rfl ?_
    refine lv_lconst (v := 1) hx hb dX12_years_9 rfl ?_
    refine lv_ldc2 (v := 20) hx hb hown (hts _ m_1976) dX12_years_10 ?_
    refine x_pS hF (c_X12_in l D t y.toInt64 1 20) m_1469 m_1470 m_13 m_1471 hd_X12_in ⟨Nat.le_of_ble_eq_true rfl, Nat.le_of_ble_eq_true rfl⟩ hK hN hP hS [] rfl hl.1 rfl (Nat.le_of_ble_eq_true rfl) dX12_years_13 ⟨Nat.zero_le _, Nat.zero_le _⟩ (fun H locs hP hS => ?_)
    refine x_seti (ib 1 20 y) (inV_i y (by decide) (by decide)) ?_
    refine lv_if_eq (tgt := 28) hx hb dX12_years_16 (by decide) (fun c_2 => ?_) (fun c_2 => ?_)
    · refine lv_bipush (v := (-2)) hx hb dX12_years_28 (by decide) ?_
      exact W.iret (v := (-2)) hx hb hr (fun t9 ht hW => ⟨⟨(-2), (), rfl, rfl, trivial⟩, hS.F ht⟩) hS.2.2 dX12_years_30
    · refine lv_aload_n hx hb dX12_years_19 rfl (lv_at hl 0 rfl) ?_
      refine lv_iload_n hx hb dX12_years_20 rfl (lv_at hl 3 rfl) ?_
      refine lv_i2l hx hb dX12_years_21 rfl ?_
      refine x_pV hF (c_X12_isWord l D t b z.toInt64) m_1607 m_1609 m_s57 m_13 m_1610 hd_X12_isWord ⟨Nat.le_of_ble_eq_true rfl, Nat.le_of_ble_eq_true rfl⟩ hK hN hP hS [0, 1] rfl 0 (ci := 12) rfl rfl rfl hl.1 rfl (Nat.le_of_ble_eq_true rfl) dX12_years_22 ⟨Nat.zero_le _, Nat.zero_le _⟩ (fun H locs hP hS => ?_)
      refine lv_if_ne (tgt := 31) hx hb dX12_years_25 (by decide) (fun c9 => absurd c9 (by decide)) (fun _ => ?_)
      refine lv_bipush (v := (-2)) hx hb dX12_years_28 (by decide) ?_
      exact W.iret (v := (-2)) hx hb hr (fun t9 ht hW => ⟨⟨(-2), (), rfl, rfl, trivial⟩, hS.F ht⟩) hS.2.2 dX12_years_30

set_option maxHeartbeats 4000000 in
set_option maxRecDepth 100000 in
theorem c_X12_speech (l : Launch) (D : va_G) (t : Nat → ClassId) (b : Nat → Nat) (x : Int32) : Met l yX12_speech (wd yX12_speech cX12_speech 3 (some .int)) (RM 3 0 0) (PreP D (TY t) [.ref (b 0), .int x] [(b 0, .inr (12, [.int 0, .ref (b 1), .ref (b 2), .ref (b 3), .ref (b 4), .int 0, .ref (b 5), .int 0, .int 0, .int 0, .int 0, .int 0, .int 0, .int (-1), .ref (b 6), .int 0, .ref (b 7), .int 0, .int (-1), .int 0, .ref (b 8), .int 0, .ref (b 9), .int 0, .ref (b 10), .ref (b 11), .ref (b 12), .int 0, .int 0, .int 0, .ref (b 13), .ref (b 14), .ref (b 15), .int 0, .int 0, .int 0, .ref (b 16), .ref (b 17), .ref (b 18), .ref (b 19)])), (b 1, .inl (t 0, 841, .inl (fun _ => 0)))]) (QI (-2)) 0 0 NoF := by
  refine Met.ofW (cc := cX12_speech) (maxL := 3) (ret := (some .int)) (by decide) rfl ?_
  intro p e s m args below meth c s₁ B hml hv
  obtain ⟨rfl, hP, hK, hN⟩ := hv
  have hx := B.exec
  have hb := B.bytes
  have hr := B.returns
  have hts : ∀ w ∈ TB, w.before _ s = true := fun w h => atoms_spec (ws := wd yX12_speech cX12_speech 3 (some .int)) B.pre w (List.mem_cons_of_mem _ h)
  have hown : s.vm.findClass RX12 = some m.cls := findClass_of_methodNamed B.named
  have hlocks := B.notSynchronized
  have hF : CallFix p m c cX12_speech 3 s _ TB RX12 := ⟨hx, hb, hml, hown, hts⟩
  have hl := lv_entry ([.ref (b 0), .int x]) (n := 3) (Nat.le_of_ble_eq_true rfl)
  rw [lg_entry_eq]
  generalize (lg_sl ([.ref (b 0), .int x]) ++ List.replicate (3 - (lg_sl ([.ref (b 0), .int x])).length) Slot.unset).toArray = ls at hl ⊢
  have hl : lv_has ls 3 [(0, .ref (b 0)), (1, .int x)] := hl
  have hS : va_S NoF s.heap s.heap [] := va_S.rf
  have hP : va_P D classes [(b 0, .inr (12, [.int 0, .ref (b 1), .ref (b 2), .ref (b 3), .ref (b 4), .int 0, .ref (b 5), .int 0, .int 0, .int 0, .int 0, .int 0, .int 0, .int (-1), .ref (b 6), .int 0, .ref (b 7), .int 0, .int (-1), .int 0, .ref (b 8), .int 0, .ref (b 9), .int 0, .ref (b 10), .ref (b 11), .ref (b 12), .int 0, .int 0, .int 0, .ref (b 13), .ref (b 14), .ref (b 15), .int 0, .int 0, .int 0, .ref (b 16), .ref (b 17), .ref (b 18), .ref (b 19)])), (b 1, .inl (t 0, 841, .inl (fun _ => 0)))] s.heap := hP
  refine lv_aload_n hx hb dX12_speech_0 rfl (lv_at hl 0 rfl) ?_
  refine lv_iload_n hx hb dX12_speech_1 rfl (lv_at hl 1 rfl) ?_
  refine lv_iconst (v := 1) hx hb dX12_speech_2 (by decide) ?_
  refine x_pV hF (c_X12_asksSpeech l D t b x 1) m_1997 m_1999 m_s102 m_13 m_2000 hd_X12_asksSpeech ⟨Nat.le_of_ble_eq_true rfl, Nat.le_of_ble_eq_true rfl⟩ hK hN hP hS [0, 1] rfl 0 (ci := 12) rfl rfl rfl hl.1 rfl (Nat.le_of_ble_eq_true rfl) dX12_speech_3 ⟨Nat.zero_le _, Nat.zero_le _⟩ (fun H locs hP hS => ?_)
  refine lv_istore_n (lv' := [(2, .int (-2)), (0, .ref (b 0)), (1, .int x)]) hx hb dX12_speech_6 rfl hl (by decide) rfl (fun ls hl => ?_)
  refine lv_iload_n hx hb dX12_speech_7 rfl (lv_at hl 0 rfl) ?_
  refine lv_if_ge (tgt := 15) hx hb dX12_speech_8 (by decide) (fun c9 => absurd c9 (by decide)) (fun _ => ?_)
  refine lv_iload_n hx hb dX12_speech_11 rfl (lv_at hl 0 rfl) ?_
  refine lv_goto (tgt := 27) hx hb dX12_speech_12 (by decide) ?_
  exact W.iret (v := (-2)) hx hb hr (fun t9 ht hW => ⟨⟨(-2), (), rfl, rfl, trivial⟩, hS.F ht⟩) hS.2.2 dX12_speech_27

set_option maxHeartbeats 4000000 in
set_option maxRecDepth 100000 in
theorem c_X12_fits (l : Launch) (D : va_G) (t : Nat → ClassId) (b : Nat → Nat) (x : Int32) : Met l yX12_fits (wd yX12_fits cX12_fits 3 (some .int)) (RM 3 0 0) (PreP D (TY t) [.ref (b 0), .int x] [(b 0, .inr (12, [.int 0, .ref (b 1), .ref (b 2), .ref (b 3), .ref (b 4), .int 0, .ref (b 5), .int 0, .int 0, .int 0, .int 0, .int 0, .int 0, .int (-1), .ref (b 6), .int 0, .ref (b 7), .int 0, .int (-1), .int 0, .ref (b 8), .int 0, .ref (b 9), .int 0, .ref (b 10), .ref (b 11), .ref (b 12), .int 0, .int 0, .int 0, .ref (b 13), .ref (b 14), .ref (b 15), .int 0, .int 0, .int 0, .ref (b 16), .ref (b 17), .ref (b 18), .ref (b 19)])), (b 1, .inl (t 0, 841, .inl (fun _ => 0)))]) (QI (-2)) 0 0 NoF := by
  refine Met.ofW (cc := cX12_fits) (maxL := 3) (ret := (some .int)) (by decide) rfl ?_
  intro p e s m args below meth c s₁ B hml hv
  obtain ⟨rfl, hP, hK, hN⟩ := hv
  have hx := B.exec
  have hb := B.bytes
  have hr := B.returns
  have hts : ∀ w ∈ TB, w.before _ s = true := fun w h => atoms_spec (ws := wd yX12_fits cX12_fits 3 (some .int)) B.pre w (List.mem_cons_of_mem _ h)
  have hown : s.vm.findClass RX12 = some m.cls := findClass_of_methodNamed B.named
  have hlocks := B.notSynchronized
  have hF : CallFix p m c cX12_fits 3 s _ TB RX12 := ⟨hx, hb, hml, hown, hts⟩
  have hl := lv_entry ([.ref (b 0), .int x]) (n := 3) (Nat.le_of_ble_eq_true rfl)
  rw [lg_entry_eq]
  generalize (lg_sl ([.ref (b 0), .int x]) ++ List.replicate (3 - (lg_sl ([.ref (b 0), .int x])).length) Slot.unset).toArray = ls at hl ⊢
  have hl : lv_has ls 3 [(0, .ref (b 0)), (1, .int x)] := hl
  have hS : va_S NoF s.heap s.heap [] := va_S.rf
  have hP : va_P D classes [(b 0, .inr (12, [.int 0, .ref (b 1), .ref (b 2), .ref (b 3), .ref (b 4), .int 0, .ref (b 5), .int 0, .int 0, .int 0, .int 0, .int 0, .int 0, .int (-1), .ref (b 6), .int 0, .ref (b 7), .int 0, .int (-1), .int 0, .ref (b 8), .int 0, .ref (b 9), .int 0, .ref (b 10), .ref (b 11), .ref (b 12), .int 0, .int 0, .int 0, .ref (b 13), .ref (b 14), .ref (b 15), .int 0, .int 0, .int 0, .ref (b 16), .ref (b 17), .ref (b 18), .ref (b 19)])), (b 1, .inl (t 0, 841, .inl (fun _ => 0)))] s.heap := hP
  refine lv_aload_n hx hb dX12_fits_0 rfl (lv_at hl 0 rfl) ?_
  refine lv_iload_n hx hb dX12_fits_1 rfl (lv_at hl 1 rfl) ?_
  refine lv_iconst (v := 1) hx hb dX12_fits_2 (by decide) ?_
  refine x_pV hF (c_X12_asksSpeech l D t b x 1) m_1997 m_1999 m_s102 m_13 m_2000 hd_X12_asksSpeech ⟨Nat.le_of_ble_eq_true rfl, Nat.le_of_ble_eq_true rfl⟩ hK hN hP hS [0, 1] rfl 0 (ci := 12) rfl rfl rfl hl.1 rfl (Nat.le_of_ble_eq_true rfl) dX12_fits_3 ⟨Nat.zero_le _, Nat.zero_le _⟩ (fun H locs hP hS => ?_)
  refine lv_istore_n (lv' := [(2, .int (-2)), (0, .ref (b 0)), (1, .int x)]) hx hb dX12_fits_6 rfl hl (by decide) rfl (fun ls hl => ?_)
  refine lv_iload_n hx hb dX12_fits_7 rfl (lv_at hl 0 rfl) ?_
  refine lv_if_ge (tgt := 15) hx hb dX12_fits_8 (by decide) (fun c9 => absurd c9 (by decide)) (fun _ => ?_)
  refine lv_iload_n hx hb dX12_fits_11 rfl (lv_at hl 0 rfl) ?_
  refine lv_goto (tgt := 20) hx hb dX12_fits_12 (by decide) ?_
  exact W.iret (v := (-2)) hx hb hr (fun t9 ht hW => ⟨⟨(-2), (), rfl, rfl, trivial⟩, hS.F ht⟩) hS.2.2 dX12_fits_20

set_option maxHeartbeats 4000000 in
set_option maxRecDepth 100000 in
theorem c_X12_sure (l : Launch) (D : va_G) (t : Nat → ClassId) (b : Nat → Nat) (x : Int32) (y : Int32) : Met l yX12_sure (wd yX12_sure cX12_sure 4 (some .int)) (RM 3 0 0) (PreP D (TY t) [.ref (b 0), .int x, .int y] [(b 0, .inr (12, [.int 0, .ref (b 1), .ref (b 2), .ref (b 3), .ref (b 4), .int 0, .ref (b 5), .int 0, .int 0, .int 0, .int 0, .int 0, .int 0, .int (-1), .ref (b 6), .int 0, .ref (b 7), .int 0, .int (-1), .int 0, .ref (b 8), .int 0, .ref (b 9), .int 0, .ref (b 10), .ref (b 11), .ref (b 12), .int 0, .int 0, .int 0, .ref (b 13), .ref (b 14), .ref (b 15), .int 0, .int 0, .int 0, .ref (b 16), .ref (b 17), .ref (b 18), .ref (b 19)])), (b 1, .inl (t 0, 841, .inl (fun _ => 0)))]) (QI (-2)) 0 0 NoF := by
  refine Met.ofW (cc := cX12_sure) (maxL := 4) (ret := (some .int)) (by decide) rfl ?_
  intro p e s m args below meth c s₁ B hml hv
  obtain ⟨rfl, hP, hK, hN⟩ := hv
  have hx := B.exec
  have hb := B.bytes
  have hr := B.returns
  have hts : ∀ w ∈ TB, w.before _ s = true := fun w h => atoms_spec (ws := wd yX12_sure cX12_sure 4 (some .int)) B.pre w (List.mem_cons_of_mem _ h)
  have hown : s.vm.findClass RX12 = some m.cls := findClass_of_methodNamed B.named
  have hlocks := B.notSynchronized
  have hF : CallFix p m c cX12_sure 4 s _ TB RX12 := ⟨hx, hb, hml, hown, hts⟩
  have hl := lv_entry ([.ref (b 0), .int x, .int y]) (n := 4) (Nat.le_of_ble_eq_true rfl)
  rw [lg_entry_eq]
  generalize (lg_sl ([.ref (b 0), .int x, .int y]) ++ List.replicate (4 - (lg_sl ([.ref (b 0), .int x, .int y])).length) Slot.unset).toArray = ls at hl ⊢
  have hl : lv_has ls 4 [(0, .ref (b 0)), (1, .int x), (2, .int y)] := hl
  have hS : va_S NoF s.heap s.heap [] := va_S.rf
  have hP : va_P D classes [(b 0, .inr (12, [.int 0, .ref (b 1), .ref (b 2), .ref (b 3), .ref (b 4), .int 0, .ref (b 5), .int 0, .int 0, .int 0, .int 0, .int 0, .int 0, .int (-1), .ref (b 6), .int 0, .ref (b 7), .int 0, .int (-1), .int 0, .ref (b 8), .int 0, .ref (b 9), .int 0, .ref (b 10), .ref (b 11), .ref (b 12), .int 0, .int 0, .int 0, .ref (b 13), .ref (b 14), .ref (b 15), .int 0, .int 0, .int 0, .ref (b 16), .ref (b 17), .ref (b 18), .ref (b 19)])), (b 1, .inl (t 0, 841, .inl (fun _ => 0)))] s.heap := hP
  refine lv_aload_n hx hb dX12_sure_0 rfl (lv_at hl 0 rfl) ?_
  refine lv_iload_n hx hb dX12_sure_1 rfl (lv_at hl 1 rfl) ?_
  refine lv_iload_n hx hb dX12_sure_2 rfl (lv_at hl 2 rfl) ?_
  refine lv_i2l hx hb dX12_sure_3 rfl ?_
  refine lv_lconst (v := 0) hx hb dX12_sure_4 rfl ?_
  refine lv_lconst (v := 1) hx hb dX12_sure_5 rfl ?_
  refine x_pS hF (c_X12_in l D t y.toInt64 0 1) m_1469 m_1470 m_13 m_1471 hd_X12_in ⟨Nat.le_of_ble_eq_true rfl, Nat.le_of_ble_eq_true rfl⟩ hK hN hP hS [] rfl hl.1 rfl (Nat.le_of_ble_eq_true rfl) dX12_sure_6 ⟨Nat.zero_le _, Nat.zero_le _⟩ (fun H locs hP hS => ?_)
  refine x_seti (ib 0 1 y) (inV_i y (by decide) (by decide)) ?_
  refine x_pV hF (c_X12_asksSpeech l D t b x (ib 0 1 y)) m_1997 m_1999 m_s102 m_13 m_2000 hd_X12_asksSpeech ⟨Nat.le_of_ble_eq_true rfl, Nat.le_of_ble_eq_true rfl⟩ hK hN hP hS [0, 1] rfl 0 (ci := 12) rfl rfl rfl hl.1 rfl (Nat.le_of_ble_eq_true rfl) dX12_sure_9 ⟨Nat.zero_le _, Nat.zero_le _⟩ (fun H locs hP hS => ?_)
  refine lv_istore_n (lv' := [(3, .int (-2)), (0, .ref (b 0)), (1, .int x), (2, .int y)]) hx hb dX12_sure_12 rfl hl (by decide) rfl (fun ls hl => ?_)
  refine lv_iload_n hx hb dX12_sure_13 rfl (lv_at hl 0 rfl) ?_
  refine lv_if_ge (tgt := 19) hx hb dX12_sure_14 (by decide) (fun c9 => absurd c9 (by decide)) (fun _ => ?_)
  refine lv_iload_n hx hb dX12_sure_17 rfl (lv_at hl 0 rfl) ?_
  exact W.iret (v := (-2)) hx hb hr (fun t9 ht hW => ⟨⟨(-2), (), rfl, rfl, trivial⟩, hS.F ht⟩) hS.2.2 dX12_sure_18

set_option maxHeartbeats 4000000 in
set_option maxRecDepth 100000 in
theorem c_X12_fault (l : Launch) (D : va_G) (t : Nat → ClassId) (b : Nat → Nat) (x : Int32) : Met l yX12_fault (wd yX12_fault cX12_fault 2 (some .int)) (RM 0 0 0) (PreP D (TY t) [.ref (b 0), .int x] [(b 0, .inr (12, [.int 0, .ref (b 1), .ref (b 2), .ref (b 3), .ref (b 4), .int 0, .ref (b 5), .int 0, .int 0, .int 0, .int 0, .int 0, .int 0, .int (-1), .ref (b 6), .int 0, .ref (b 7), .int 0, .int (-1), .int 0, .ref (b 8), .int 0, .ref (b 9), .int 0, .ref (b 10), .ref (b 11), .ref (b 12), .int 0, .int 0, .int 0, .ref (b 13), .ref (b 14), .ref (b 15), .int 0, .int 0, .int 0, .ref (b 16), .ref (b 17), .ref (b 18), .ref (b 19)]))]) (QI (sp_fault x)) 0 0 NoF := by
  refine Met.ofW (cc := cX12_fault) (maxL := 2) (ret := (some .int)) (by decide) rfl ?_
  intro p e s m args below meth c s₁ B hml hv
  obtain ⟨rfl, hP, hK, hN⟩ := hv
  have hx := B.exec
  have hb := B.bytes
  have hr := B.returns
  have hts : ∀ w ∈ TB, w.before _ s = true := fun w h => atoms_spec (ws := wd yX12_fault cX12_fault 2 (some .int)) B.pre w (List.mem_cons_of_mem _ h)
  have hown : s.vm.findClass RX12 = some m.cls := findClass_of_methodNamed B.named
  have hlocks := B.notSynchronized
  have hF : CallFix p m c cX12_fault 2 s _ TB RX12 := ⟨hx, hb, hml, hown, hts⟩
  have hl := lv_entry ([.ref (b 0), .int x]) (n := 2) (Nat.le_of_ble_eq_true rfl)
  rw [lg_entry_eq]
  generalize (lg_sl ([.ref (b 0), .int x]) ++ List.replicate (2 - (lg_sl ([.ref (b 0), .int x])).length) Slot.unset).toArray = ls at hl ⊢
  have hl : lv_has ls 2 [(0, .ref (b 0)), (1, .int x)] := hl
  have hS : va_S NoF s.heap s.heap [] := va_S.rf
  have hP : va_P D classes [(b 0, .inr (12, [.int 0, .ref (b 1), .ref (b 2), .ref (b 3), .ref (b 4), .int 0, .ref (b 5), .int 0, .int 0, .int 0, .int 0, .int 0, .int 0, .int (-1), .ref (b 6), .int 0, .ref (b 7), .int 0, .int (-1), .int 0, .ref (b 8), .int 0, .ref (b 9), .int 0, .ref (b 10), .ref (b 11), .ref (b 12), .int 0, .int 0, .int 0, .ref (b 13), .ref (b 14), .ref (b 15), .int 0, .int 0, .int 0, .ref (b 16), .ref (b 17), .ref (b 18), .ref (b 19)]))] s.heap := hP
  refine lv_iload_n hx hb dX12_fault_0 rfl (lv_at hl 1 rfl) ?_
  refine lv_if_ne (tgt := 11) hx hb dX12_fault_1 (by decide) (fun c_1 => ?_) (fun c_1 => ?_)
  · refine lv_iload_n hx hb dX12_fault_11 rfl (lv_at hl 1 rfl) ?_
    refine lv_iconst (v := 1) hx hb dX12_fault_12 (by decide) ?_
    refine lv_icmp_ne (tgt := 23) hx hb dX12_fault_13 (by decide) (fun c_2 => ?_) (fun c_2 => ?_)
    · refine lv_iconst (v := (-1)) hx hb dX12_fault_23 (by decide) ?_
      exact W.iret (v := (-1)) hx hb hr (fun t9 ht hW => ⟨⟨(-1), (), rfl, (by unfold sp_fault; rw [if_neg c_1]), trivial⟩, hS.F ht⟩) hS.2.2 dX12_fault_24
    · refine lv_aload_n hx hb dX12_fault_16 rfl (lv_at hl 0 rfl) ?_
      refine va_get (D := D) (ci := 12) (v := .int (-1)) (C := RX12) (T := TX12) (N := 40) hx hb hts iX12 hown hK hP 0 rfl rfl 13 (by decide) (hts _ m_1356) (fun _ h9 => h9) rfl dX12_fault_17 ?_
      refine lv_goto (tgt := 24) hx hb dX12_fault_20 (by decide) ?_
      exact W.iret (v := (-1)) hx hb hr (fun t9 ht hW => ⟨⟨(-1), (), rfl, (by unfold sp_fault; rw [if_neg c_1]), trivial⟩, hS.F ht⟩) hS.2.2 dX12_fault_24
  · refine lv_aload_n hx hb dX12_fault_4 rfl (lv_at hl 0 rfl) ?_
    refine va_get (D := D) (ci := 12) (v := .int 0) (C := RX12) (T := TX12) (N := 40) hx hb hts iX12 hown hK hP 0 rfl rfl 12 (by decide) (hts _ m_1355) (fun _ h9 => h9) rfl dX12_fault_5 ?_
    refine lv_goto (tgt := 24) hx hb dX12_fault_8 (by decide) ?_
    exact W.iret (v := 0) hx hb hr (fun t9 ht hW => ⟨⟨0, (), rfl, (by unfold sp_fault; rw [if_pos c_1]), trivial⟩, hS.F ht⟩) hS.2.2 dX12_fault_24

set_option maxHeartbeats 4000000 in
set_option maxRecDepth 100000 in
theorem c_X12_back (l : Launch) (D : va_G) (t : Nat → ClassId) (b : Nat → Nat) (x : Int32) : Met l yX12_back (wd yX12_back cX12_back 3 (some .int)) (RM 1 0 0) (PreP D (TY t) [.ref (b 0), .int x] [(b 0, .inr (12, [.int 0, .ref (b 1), .ref (b 2), .ref (b 3), .ref (b 4), .int 0, .ref (b 5), .int 0, .int 0, .int 0, .int 0, .int 0, .int 0, .int (-1), .ref (b 6), .int 0, .ref (b 7), .int 0, .int (-1), .int 0, .ref (b 8), .int 0, .ref (b 9), .int 0, .ref (b 10), .ref (b 11), .ref (b 12), .int 0, .int 0, .int 0, .ref (b 13), .ref (b 14), .ref (b 15), .int 0, .int 0, .int 0, .ref (b 16), .ref (b 17), .ref (b 18), .ref (b 19)])), (b 3, .inl (t 3, 3, .inl (fun _ => 0)))]) (QI (sp_back x)) 0 0 NoF := by
  refine Met.ofW (cc := cX12_back) (maxL := 3) (ret := (some .int)) (by decide) rfl ?_
  intro p e s m args below meth c s₁ B hml hv
  obtain ⟨rfl, hP, hK, hN⟩ := hv
  have hx := B.exec
  have hb := B.bytes
  have hr := B.returns
  have hts : ∀ w ∈ TB, w.before _ s = true := fun w h => atoms_spec (ws := wd yX12_back cX12_back 3 (some .int)) B.pre w (List.mem_cons_of_mem _ h)
  have hown : s.vm.findClass RX12 = some m.cls := findClass_of_methodNamed B.named
  have hlocks := B.notSynchronized
  have hF : CallFix p m c cX12_back 3 s _ TB RX12 := ⟨hx, hb, hml, hown, hts⟩
  have hl := lv_entry ([.ref (b 0), .int x]) (n := 3) (Nat.le_of_ble_eq_true rfl)
  rw [lg_entry_eq]
  generalize (lg_sl ([.ref (b 0), .int x]) ++ List.replicate (3 - (lg_sl ([.ref (b 0), .int x])).length) Slot.unset).toArray = ls at hl ⊢
  have hl : lv_has ls 3 [(0, .ref (b 0)), (1, .int x)] := hl
  have hS : va_S NoF s.heap s.heap [] := va_S.rf
  have hP : va_P D classes [(b 0, .inr (12, [.int 0, .ref (b 1), .ref (b 2), .ref (b 3), .ref (b 4), .int 0, .ref (b 5), .int 0, .int 0, .int 0, .int 0, .int 0, .int 0, .int (-1), .ref (b 6), .int 0, .ref (b 7), .int 0, .int (-1), .int 0, .ref (b 8), .int 0, .ref (b 9), .int 0, .ref (b 10), .ref (b 11), .ref (b 12), .int 0, .int 0, .int 0, .ref (b 13), .ref (b 14), .ref (b 15), .int 0, .int 0, .int 0, .ref (b 16), .ref (b 17), .ref (b 18), .ref (b 19)])), (b 3, .inl (t 3, 3, .inl (fun _ => 0)))] s.heap := hP
  refine lv_iload_n hx hb dX12_back_0 rfl (lv_at hl 1 rfl) ?_
  refine lv_i2l hx hb dX12_back_1 rfl ?_
  refine lv_lconst (v := 0) hx hb dX12_back_2 rfl ?_
  refine lv_ldc2 (v := 2) hx hb hown (hts _ m_1468) dX12_back_3 ?_
  refine x_pS hF (c_X12_in l D t x.toInt64 0 2) m_1469 m_1470 m_13 m_1471 hd_X12_in ⟨Nat.le_of_ble_eq_true rfl, Nat.le_of_ble_eq_true rfl⟩ hK hN hP hS [] rfl hl.1 rfl (Nat.le_of_ble_eq_true rfl) dX12_back_6 ⟨Nat.zero_le _, Nat.zero_le _⟩ (fun H locs hP hS => ?_)
  refine x_seti (ib 0 2 x) (inV_i x (by decide) (by decide)) ?_
  refine lv_if_ne (tgt := 15) hx hb dX12_back_9 (by decide) (fun c_1 => ?_) (fun c_1 => ?_)
  · obtain ⟨j_2, hj_2, rfl⟩ := ib_nat (n := 3) c_1 (by decide)
    obtain rfl | rfl | rfl : j_2 = 0 ∨ j_2 = 1 ∨ j_2 = 2 := by omega
    · refine lv_aload_n hx hb dX12_back_15 rfl (lv_at hl 0 rfl) ?_
      refine va_get (D := D) (ci := 12) (v := .ref (b 3)) (C := RX12) (T := TX12) (N := 40) hx hb hts iX12 hown hK hP 0 rfl rfl 3 (by decide) (hts _ m_1346) (fun _ h9 => h9) rfl dX12_back_16 ?_
      refine lv_iload_n hx hb dX12_back_19 rfl (lv_at hl 1 rfl) ?_
      refine va_zald hx hb hK hP 1 3 rfl rfl (vp_in_nI (n := 0) (by decide) (by decide)) dX12_back_20 ?_
      refine x_seti 0 rfl ?_
      refine lv_if_ne (tgt := 27) hx hb dX12_back_21 (by decide) (fun c9 => absurd c9 (by decide)) (fun _ => ?_)
      refine lv_bipush (v := (-6)) hx hb dX12_back_24 (by decide) ?_
      exact W.iret (v := (-6)) hx hb hr (fun t9 ht hW => ⟨⟨(-6), (), rfl, rfl, trivial⟩, hS.F ht⟩) hS.2.2 dX12_back_26
    · refine lv_aload_n hx hb dX12_back_15 rfl (lv_at hl 0 rfl) ?_
      refine va_get (D := D) (ci := 12) (v := .ref (b 3)) (C := RX12) (T := TX12) (N := 40) hx hb hts iX12 hown hK hP 0 rfl rfl 3 (by decide) (hts _ m_1346) (fun _ h9 => h9) rfl dX12_back_16 ?_
      refine lv_iload_n hx hb dX12_back_19 rfl (lv_at hl 1 rfl) ?_
      refine va_zald hx hb hK hP 1 3 rfl rfl (vp_in_nI (n := 1) (by decide) (by decide)) dX12_back_20 ?_
      refine x_seti 0 rfl ?_
      refine lv_if_ne (tgt := 27) hx hb dX12_back_21 (by decide) (fun c9 => absurd c9 (by decide)) (fun _ => ?_)
      refine lv_bipush (v := (-6)) hx hb dX12_back_24 (by decide) ?_
      exact W.iret (v := (-6)) hx hb hr (fun t9 ht hW => ⟨⟨(-6), (), rfl, rfl, trivial⟩, hS.F ht⟩) hS.2.2 dX12_back_26
    · refine lv_aload_n hx hb dX12_back_15 rfl (lv_at hl 0 rfl) ?_
      refine va_get (D := D) (ci := 12) (v := .ref (b 3)) (C := RX12) (T := TX12) (N := 40) hx hb hts iX12 hown hK hP 0 rfl rfl 3 (by decide) (hts _ m_1346) (fun _ h9 => h9) rfl dX12_back_16 ?_
      refine lv_iload_n hx hb dX12_back_19 rfl (lv_at hl 1 rfl) ?_
      refine va_zald hx hb hK hP 1 3 rfl rfl (vp_in_nI (n := 2) (by decide) (by decide)) dX12_back_20 ?_
      refine x_seti 0 rfl ?_
      refine lv_if_ne (tgt := 27) hx hb dX12_back_21 (by decide) (fun c9 => absurd c9 (by decide)) (fun _ => ?_)
      refine lv_bipush (v := (-6)) hx hb dX12_back_24 (by decide) ?_
      exact W.iret (v := (-6)) hx hb hr (fun t9 ht hW => ⟨⟨(-6), (), rfl, rfl, trivial⟩, hS.F ht⟩) hS.2.2 dX12_back_26
  · refine lv_bipush (v := (-2)) hx hb dX12_back_12 (by decide) ?_
    exact W.iret (v := (-2)) hx hb hr (fun t9 ht hW => ⟨⟨(-2), (), rfl, (by unfold sp_back; rw [if_pos c_1]), trivial⟩, hS.F ht⟩) hS.2.2 dX12_back_14

set_option maxHeartbeats 4000000 in
set_option maxRecDepth 100000 in
theorem c_X12_write (l : Launch) (D : va_G) (t : Nat → ClassId) (b : Nat → Nat) (x : Int32) (y : Int32) (z : Int64) : Met l yX12_write (wd yX12_write cX12_write 5 (some .int)) (RM 2 0 0) (PreP D (TY t) [.ref (b 0), .int x, .int y, .long z] [(b 0, .inr (12, [.int 0, .ref (b 1), .ref (b 2), .ref (b 3), .ref (b 4), .int 0, .ref (b 5), .int 0, .int 0, .int 0, .int 0, .int 0, .int 0, .int (-1), .ref (b 6), .int 0, .ref (b 7), .int 0, .int (-1), .int 0, .ref (b 8), .int 0, .ref (b 9), .int 0, .ref (b 10), .ref (b 11), .ref (b 12), .int 0, .int 0, .int 0, .ref (b 13), .ref (b 14), .ref (b 15), .int 0, .int 0, .int 0, .ref (b 16), .ref (b 17), .ref (b 18), .ref (b 19)])), (b 16, .inl (t 0, 4, .inl mny))]) (QI (sp_write x)) 0 0 NoF := by
  refine Met.ofW (cc := cX12_write) (maxL := 5) (ret := (some .int)) (by decide) rfl ?_
  intro p e s m args below meth c s₁ B hml hv
  obtain ⟨rfl, hP, hK, hN⟩ := hv
  have hx := B.exec
  have hb := B.bytes
  have hr := B.returns
  have hts : ∀ w ∈ TB, w.before _ s = true := fun w h => atoms_spec (ws := wd yX12_write cX12_write 5 (some .int)) B.pre w (List.mem_cons_of_mem _ h)
  have hown : s.vm.findClass RX12 = some m.cls := findClass_of_methodNamed B.named
  have hlocks := B.notSynchronized
  have hF : CallFix p m c cX12_write 5 s _ TB RX12 := ⟨hx, hb, hml, hown, hts⟩
  have hl := lv_entry ([.ref (b 0), .int x, .int y, .long z]) (n := 5) (Nat.le_of_ble_eq_true rfl)
  rw [lg_entry_eq]
  generalize (lg_sl ([.ref (b 0), .int x, .int y, .long z]) ++ List.replicate (5 - (lg_sl ([.ref (b 0), .int x, .int y, .long z])).length) Slot.unset).toArray = ls at hl ⊢
  have hl : lv_has ls 5 [(0, .ref (b 0)), (1, .int x), (2, .int y), (3, .long z)] := hl
  have hS : va_S NoF s.heap s.heap [] := va_S.rf
  have hP : va_P D classes [(b 0, .inr (12, [.int 0, .ref (b 1), .ref (b 2), .ref (b 3), .ref (b 4), .int 0, .ref (b 5), .int 0, .int 0, .int 0, .int 0, .int 0, .int 0, .int (-1), .ref (b 6), .int 0, .ref (b 7), .int 0, .int (-1), .int 0, .ref (b 8), .int 0, .ref (b 9), .int 0, .ref (b 10), .ref (b 11), .ref (b 12), .int 0, .int 0, .int 0, .ref (b 13), .ref (b 14), .ref (b 15), .int 0, .int 0, .int 0, .ref (b 16), .ref (b 17), .ref (b 18), .ref (b 19)])), (b 16, .inl (t 0, 4, .inl mny))] s.heap := hP
  refine lv_iload_n hx hb dX12_write_0 rfl (lv_at hl 1 rfl) ?_
  refine x_pS hF (c_X12_isSlot l D t x) m_2001 m_2002 m_13 m_2003 hd_X12_isSlot ⟨Nat.le_of_ble_eq_true rfl, Nat.le_of_ble_eq_true rfl⟩ hK hN hP hS [] rfl hl.1 rfl (Nat.le_of_ble_eq_true rfl) dX12_write_1 ⟨Nat.zero_le _, Nat.zero_le _⟩ (fun H locs hP hS => ?_)
  refine lv_if_ne (tgt := 10) hx hb dX12_write_4 (by decide) (fun c_1 => ?_) (fun c_1 => ?_)
  · obtain ⟨j_2, hj_2, rfl⟩ := ib_nat (n := 4) c_1 (by decide)
    obtain rfl | rfl | rfl | rfl : j_2 = 0 ∨ j_2 = 1 ∨ j_2 = 2 ∨ j_2 = 3 := by omega
    · refine lv_aload_n hx hb dX12_write_10 rfl (lv_at hl 0 rfl) ?_
      refine va_get (D := D) (ci := 12) (v := .ref (b 16)) (C := RX12) (T := TX12) (N := 40) hx hb hts iX12 hown hK hP 0 rfl rfl 36 (by decide) (hts _ m_1379) (fun _ h9 => h9) rfl dX12_write_11 ?_
      refine lv_iload_n hx hb dX12_write_14 rfl (lv_at hl 1 rfl) ?_
      refine va_iald hx hb hK hP 1 0 rfl rfl (vp_in_nI (n := 0) (by decide) (by decide)) dX12_write_15 ?_
      refine x_seti (-1) (by decide) ?_
      refine lv_iconst (v := (-1)) hx hb dX12_write_16 (by decide) ?_
      refine lv_icmp_ne (tgt := 23) hx hb dX12_write_17 (by decide) (fun c9 => absurd c9 (by decide)) (fun _ => ?_)
      refine lv_bipush (v := (-6)) hx hb dX12_write_20 (by decide) ?_
      exact W.iret (v := (-6)) hx hb hr (fun t9 ht hW => ⟨⟨(-6), (), rfl, rfl, trivial⟩, hS.F ht⟩) hS.2.2 dX12_write_22
    · refine lv_aload_n hx hb dX12_write_10 rfl (lv_at hl 0 rfl) ?_
      refine va_get (D := D) (ci := 12) (v := .ref (b 16)) (C := RX12) (T := TX12) (N := 40) hx hb hts iX12 hown hK hP 0 rfl rfl 36 (by decide) (hts _ m_1379) (fun _ h9 => h9) rfl dX12_write_11 ?_
      refine lv_iload_n hx hb dX12_write_14 rfl (lv_at hl 1 rfl) ?_
      refine va_iald hx hb hK hP 1 0 rfl rfl (vp_in_nI (n := 1) (by decide) (by decide)) dX12_write_15 ?_
      refine x_seti (-1) (by decide) ?_
      refine lv_iconst (v := (-1)) hx hb dX12_write_16 (by decide) ?_
      refine lv_icmp_ne (tgt := 23) hx hb dX12_write_17 (by decide) (fun c9 => absurd c9 (by decide)) (fun _ => ?_)
      refine lv_bipush (v := (-6)) hx hb dX12_write_20 (by decide) ?_
      exact W.iret (v := (-6)) hx hb hr (fun t9 ht hW => ⟨⟨(-6), (), rfl, rfl, trivial⟩, hS.F ht⟩) hS.2.2 dX12_write_22
    · refine lv_aload_n hx hb dX12_write_10 rfl (lv_at hl 0 rfl) ?_
      refine va_get (D := D) (ci := 12) (v := .ref (b 16)) (C := RX12) (T := TX12) (N := 40) hx hb hts iX12 hown hK hP 0 rfl rfl 36 (by decide) (hts _ m_1379) (fun _ h9 => h9) rfl dX12_write_11 ?_
      refine lv_iload_n hx hb dX12_write_14 rfl (lv_at hl 1 rfl) ?_
      refine va_iald hx hb hK hP 1 0 rfl rfl (vp_in_nI (n := 2) (by decide) (by decide)) dX12_write_15 ?_
      refine x_seti (-1) (by decide) ?_
      refine lv_iconst (v := (-1)) hx hb dX12_write_16 (by decide) ?_
      refine lv_icmp_ne (tgt := 23) hx hb dX12_write_17 (by decide) (fun c9 => absurd c9 (by decide)) (fun _ => ?_)
      refine lv_bipush (v := (-6)) hx hb dX12_write_20 (by decide) ?_
      exact W.iret (v := (-6)) hx hb hr (fun t9 ht hW => ⟨⟨(-6), (), rfl, rfl, trivial⟩, hS.F ht⟩) hS.2.2 dX12_write_22
    · refine lv_aload_n hx hb dX12_write_10 rfl (lv_at hl 0 rfl) ?_
      refine va_get (D := D) (ci := 12) (v := .ref (b 16)) (C := RX12) (T := TX12) (N := 40) hx hb hts iX12 hown hK hP 0 rfl rfl 36 (by decide) (hts _ m_1379) (fun _ h9 => h9) rfl dX12_write_11 ?_
      refine lv_iload_n hx hb dX12_write_14 rfl (lv_at hl 1 rfl) ?_
      refine va_iald hx hb hK hP 1 0 rfl rfl (vp_in_nI (n := 3) (by decide) (by decide)) dX12_write_15 ?_
      refine x_seti (-1) (by decide) ?_
      refine lv_iconst (v := (-1)) hx hb dX12_write_16 (by decide) ?_
      refine lv_icmp_ne (tgt := 23) hx hb dX12_write_17 (by decide) (fun c9 => absurd c9 (by decide)) (fun _ => ?_)
      refine lv_bipush (v := (-6)) hx hb dX12_write_20 (by decide) ?_
      exact W.iret (v := (-6)) hx hb hr (fun t9 ht hW => ⟨⟨(-6), (), rfl, rfl, trivial⟩, hS.F ht⟩) hS.2.2 dX12_write_22
  · refine lv_bipush (v := (-2)) hx hb dX12_write_7 (by decide) ?_
    exact W.iret (v := (-2)) hx hb hr (fun t9 ht hW => ⟨⟨(-2), (), rfl, (by unfold sp_write; rw [if_pos c_1]), trivial⟩, hS.F ht⟩) hS.2.2 dX12_write_9

set_option maxHeartbeats 4000000 in
set_option maxRecDepth 100000 in
theorem c_X12_paste (l : Launch) (D : va_G) (t : Nat → ClassId) (b : Nat → Nat) (x : Int32) (y : Int32) (z : Int32) (v : Int32) (w : Int32) : Met l yX12_paste (wd yX12_paste cX12_paste 7 (some .int)) (RM 2 0 0) (PreP D (TY t) [.ref (b 0), .int x, .int y, .int z, .int v, .int w] [(b 0, .inr (12, [.int 0, .ref (b 1), .ref (b 2), .ref (b 3), .ref (b 4), .int 0, .ref (b 5), .int 0, .int 0, .int 0, .int 0, .int 0, .int 0, .int (-1), .ref (b 6), .int 0, .ref (b 7), .int 0, .int (-1), .int 0, .ref (b 8), .int 0, .ref (b 9), .int 0, .ref (b 10), .ref (b 11), .ref (b 12), .int 0, .int 0, .int 0, .ref (b 13), .ref (b 14), .ref (b 15), .int 0, .int 0, .int 0, .ref (b 16), .ref (b 17), .ref (b 18), .ref (b 19)])), (b 16, .inl (t 0, 4, .inl mny))]) (QI (sp_paste x z)) 0 0 NoF := by
  refine Met.ofW (cc := cX12_paste) (maxL := 7) (ret := (some .int)) (by decide) rfl ?_
  intro p e s m args below meth c s₁ B hml hv
  obtain ⟨rfl, hP, hK, hN⟩ := hv
  have hx := B.exec
  have hb := B.bytes
  have hr := B.returns
  have hts : ∀ w ∈ TB, w.before _ s = true := fun w h => atoms_spec (ws := wd yX12_paste cX12_paste 7 (some .int)) B.pre w (List.mem_cons_of_mem _ h)
  have hown : s.vm.findClass RX12 = some m.cls := findClass_of_methodNamed B.named
  have hlocks := B.notSynchronized
  have hF : CallFix p m c cX12_paste 7 s _ TB RX12 := ⟨hx, hb, hml, hown, hts⟩
  have hl := lv_entry ([.ref (b 0), .int x, .int y, .int z, .int v, .int w]) (n := 7) (Nat.le_of_ble_eq_true rfl)
  rw [lg_entry_eq]
  generalize (lg_sl ([.ref (b 0), .int x, .int y, .int z, .int v, .int w]) ++ List.replicate (7 - (lg_sl ([.ref (b 0), .int x, .int y, .int z, .int v, .int w])).length) Slot.unset).toArray = ls at hl ⊢
  have hl : lv_has ls 7 [(0, .ref (b 0)), (1, .int x), (2, .int y), (3, .int z), (4, .int v), (5, .int w)] := hl
  have hS : va_S NoF s.heap s.heap [] := va_S.rf
  have hP : va_P D classes [(b 0, .inr (12, [.int 0, .ref (b 1), .ref (b 2), .ref (b 3), .ref (b 4), .int 0, .ref (b 5), .int 0, .int 0, .int 0, .int 0, .int 0, .int 0, .int (-1), .ref (b 6), .int 0, .ref (b 7), .int 0, .int (-1), .int 0, .ref (b 8), .int 0, .ref (b 9), .int 0, .ref (b 10), .ref (b 11), .ref (b 12), .int 0, .int 0, .int 0, .ref (b 13), .ref (b 14), .ref (b 15), .int 0, .int 0, .int 0, .ref (b 16), .ref (b 17), .ref (b 18), .ref (b 19)])), (b 16, .inl (t 0, 4, .inl mny))] s.heap := hP
  refine lv_iload_n hx hb dX12_paste_0 rfl (lv_at hl 1 rfl) ?_
  refine x_pS hF (c_X12_isSlot l D t x) m_2001 m_2002 m_13 m_2003 hd_X12_isSlot ⟨Nat.le_of_ble_eq_true rfl, Nat.le_of_ble_eq_true rfl⟩ hK hN hP hS [] rfl hl.1 rfl (Nat.le_of_ble_eq_true rfl) dX12_paste_1 ⟨Nat.zero_le _, Nat.zero_le _⟩ (fun H locs hP hS => ?_)
  refine lv_if_eq (tgt := 14) hx hb dX12_paste_4 (by decide) (fun c_1 => ?_) (fun c_1 => ?_)
  · refine lv_bipush (v := (-2)) hx hb dX12_paste_14 (by decide) ?_
    exact W.iret (v := (-2)) hx hb hr (fun t9 ht hW => ⟨⟨(-2), (), rfl, (by unfold sp_paste; rw [if_pos c_1]), trivial⟩, hS.F ht⟩) hS.2.2 dX12_paste_16
  · refine lv_iload_n hx hb dX12_paste_7 rfl (lv_at hl 3 rfl) ?_
    refine x_pS hF (c_X12_isSlot l D t z) m_2001 m_2002 m_13 m_2003 hd_X12_isSlot ⟨Nat.le_of_ble_eq_true rfl, Nat.le_of_ble_eq_true rfl⟩ hK hN hP hS [] rfl hl.1 rfl (Nat.le_of_ble_eq_true rfl) dX12_paste_8 ⟨Nat.zero_le _, Nat.zero_le _⟩ (fun H locs hP hS => ?_)
    refine lv_if_ne (tgt := 17) hx hb dX12_paste_11 (by decide) (fun c_2 => ?_) (fun c_2 => ?_)
    · obtain ⟨j_3, hj_3, rfl⟩ := ib_nat (n := 4) c_1 (by decide)
      obtain rfl | rfl | rfl | rfl : j_3 = 0 ∨ j_3 = 1 ∨ j_3 = 2 ∨ j_3 = 3 := by omega
      · refine lv_aload_n hx hb dX12_paste_17 rfl (lv_at hl 0 rfl) ?_
        refine va_get (D := D) (ci := 12) (v := .ref (b 16)) (C := RX12) (T := TX12) (N := 40) hx hb hts iX12 hown hK hP 0 rfl rfl 36 (by decide) (hts _ m_1379) (fun _ h9 => h9) rfl dX12_paste_18 ?_
        refine lv_iload_n hx hb dX12_paste_21 rfl (lv_at hl 1 rfl) ?_
        refine va_iald hx hb hK hP 1 0 rfl rfl (vp_in_nI (n := 0) (by decide) (by decide)) dX12_paste_22 ?_
        refine x_seti (-1) (by decide) ?_
        refine lv_iconst (v := (-1)) hx hb dX12_paste_23 (by decide) ?_
        refine lv_icmp_eq (tgt := 37) hx hb dX12_paste_24 (by decide) (fun _ => ?_) (fun c9 => absurd (by decide) c9)
        refine lv_bipush (v := (-6)) hx hb dX12_paste_37 (by decide) ?_
        exact W.iret (v := (-6)) hx hb hr (fun t9 ht hW => ⟨⟨(-6), (), rfl, (by unfold sp_paste; rw [if_neg (by decide), if_neg c_2]), trivial⟩, hS.F ht⟩) hS.2.2 dX12_paste_39
      · refine lv_aload_n hx hb dX12_paste_17 rfl (lv_at hl 0 rfl) ?_
        refine va_get (D := D) (ci := 12) (v := .ref (b 16)) (C := RX12) (T := TX12) (N := 40) hx hb hts iX12 hown hK hP 0 rfl rfl 36 (by decide) (hts _ m_1379) (fun _ h9 => h9) rfl dX12_paste_18 ?_
        refine lv_iload_n hx hb dX12_paste_21 rfl (lv_at hl 1 rfl) ?_
        refine va_iald hx hb hK hP 1 0 rfl rfl (vp_in_nI (n := 1) (by decide) (by decide)) dX12_paste_22 ?_
        refine x_seti (-1) (by decide) ?_
        refine lv_iconst (v := (-1)) hx hb dX12_paste_23 (by decide) ?_
        refine lv_icmp_eq (tgt := 37) hx hb dX12_paste_24 (by decide) (fun _ => ?_) (fun c9 => absurd (by decide) c9)
        refine lv_bipush (v := (-6)) hx hb dX12_paste_37 (by decide) ?_
        exact W.iret (v := (-6)) hx hb hr (fun t9 ht hW => ⟨⟨(-6), (), rfl, (by unfold sp_paste; rw [if_neg (by decide), if_neg c_2]), trivial⟩, hS.F ht⟩) hS.2.2 dX12_paste_39
      · refine lv_aload_n hx hb dX12_paste_17 rfl (lv_at hl 0 rfl) ?_
        refine va_get (D := D) (ci := 12) (v := .ref (b 16)) (C := RX12) (T := TX12) (N := 40) hx hb hts iX12 hown hK hP 0 rfl rfl 36 (by decide) (hts _ m_1379) (fun _ h9 => h9) rfl dX12_paste_18 ?_
        refine lv_iload_n hx hb dX12_paste_21 rfl (lv_at hl 1 rfl) ?_
        refine va_iald hx hb hK hP 1 0 rfl rfl (vp_in_nI (n := 2) (by decide) (by decide)) dX12_paste_22 ?_
        refine x_seti (-1) (by decide) ?_
        refine lv_iconst (v := (-1)) hx hb dX12_paste_23 (by decide) ?_
        refine lv_icmp_eq (tgt := 37) hx hb dX12_paste_24 (by decide) (fun _ => ?_) (fun c9 => absurd (by decide) c9)
        refine lv_bipush (v := (-6)) hx hb dX12_paste_37 (by decide) ?_
        exact W.iret (v := (-6)) hx hb hr (fun t9 ht hW => ⟨⟨(-6), (), rfl, (by unfold sp_paste; rw [if_neg (by decide), if_neg c_2]), trivial⟩, hS.F ht⟩) hS.2.2 dX12_paste_39
      · refine lv_aload_n hx hb dX12_paste_17 rfl (lv_at hl 0 rfl) ?_
        refine va_get (D := D) (ci := 12) (v := .ref (b 16)) (C := RX12) (T := TX12) (N := 40) hx hb hts iX12 hown hK hP 0 rfl rfl 36 (by decide) (hts _ m_1379) (fun _ h9 => h9) rfl dX12_paste_18 ?_
        refine lv_iload_n hx hb dX12_paste_21 rfl (lv_at hl 1 rfl) ?_
        refine va_iald hx hb hK hP 1 0 rfl rfl (vp_in_nI (n := 3) (by decide) (by decide)) dX12_paste_22 ?_
        refine x_seti (-1) (by decide) ?_
        refine lv_iconst (v := (-1)) hx hb dX12_paste_23 (by decide) ?_
        refine lv_icmp_eq (tgt := 37) hx hb dX12_paste_24 (by decide) (fun _ => ?_) (fun c9 => absurd (by decide) c9)
        refine lv_bipush (v := (-6)) hx hb dX12_paste_37 (by decide) ?_
        exact W.iret (v := (-6)) hx hb hr (fun t9 ht hW => ⟨⟨(-6), (), rfl, (by unfold sp_paste; rw [if_neg (by decide), if_neg c_2]), trivial⟩, hS.F ht⟩) hS.2.2 dX12_paste_39
    · refine lv_bipush (v := (-2)) hx hb dX12_paste_14 (by decide) ?_
      exact W.iret (v := (-2)) hx hb hr (fun t9 ht hW => ⟨⟨(-2), (), rfl, (by unfold sp_paste; rw [if_neg c_1, if_pos c_2]), trivial⟩, hS.F ht⟩) hS.2.2 dX12_paste_16

set_option maxHeartbeats 4000000 in
set_option maxRecDepth 100000 in
theorem c_X12_count_ (l : Launch) (D : va_G) (t : Nat → ClassId) (b : Nat → Nat) (x : Int32) : Met l yX12_count_ (wd yX12_count_ cX12_count_ 4 (some .int)) (RM 1 0 0) (PreP D (TY t) [.ref (b 0), .int x] [(b 0, .inr (12, [.int 0, .ref (b 1), .ref (b 2), .ref (b 3), .ref (b 4), .int 0, .ref (b 5), .int 0, .int 0, .int 0, .int 0, .int 0, .int 0, .int (-1), .ref (b 6), .int 0, .ref (b 7), .int 0, .int (-1), .int 0, .ref (b 8), .int 0, .ref (b 9), .int 0, .ref (b 10), .ref (b 11), .ref (b 12), .int 0, .int 0, .int 0, .ref (b 13), .ref (b 14), .ref (b 15), .int 0, .int 0, .int 0, .ref (b 16), .ref (b 17), .ref (b 18), .ref (b 19)])), (b 1, .inl (t 0, 841, .inl (fun _ => 0))), (b 16, .inl (t 0, 4, .inl mny))]) (QI (sp_count x)) 0 0 NoF := by
  refine Met.ofW (cc := cX12_count_) (maxL := 4) (ret := (some .int)) (by decide) rfl ?_
  intro p e s m args below meth c s₁ B hml hv
  obtain ⟨rfl, hP, hK, hN⟩ := hv
  have hx := B.exec
  have hb := B.bytes
  have hr := B.returns
  have hts : ∀ w ∈ TB, w.before _ s = true := fun w h => atoms_spec (ws := wd yX12_count_ cX12_count_ 4 (some .int)) B.pre w (List.mem_cons_of_mem _ h)
  have hown : s.vm.findClass RX12 = some m.cls := findClass_of_methodNamed B.named
  have hlocks := B.notSynchronized
  have hF : CallFix p m c cX12_count_ 4 s _ TB RX12 := ⟨hx, hb, hml, hown, hts⟩
  have hl := lv_entry ([.ref (b 0), .int x]) (n := 4) (Nat.le_of_ble_eq_true rfl)
  rw [lg_entry_eq]
  generalize (lg_sl ([.ref (b 0), .int x]) ++ List.replicate (4 - (lg_sl ([.ref (b 0), .int x])).length) Slot.unset).toArray = ls at hl ⊢
  have hl : lv_has ls 4 [(0, .ref (b 0)), (1, .int x)] := hl
  have hS : va_S NoF s.heap s.heap [] := va_S.rf
  have hP : va_P D classes [(b 0, .inr (12, [.int 0, .ref (b 1), .ref (b 2), .ref (b 3), .ref (b 4), .int 0, .ref (b 5), .int 0, .int 0, .int 0, .int 0, .int 0, .int 0, .int (-1), .ref (b 6), .int 0, .ref (b 7), .int 0, .int (-1), .int 0, .ref (b 8), .int 0, .ref (b 9), .int 0, .ref (b 10), .ref (b 11), .ref (b 12), .int 0, .int 0, .int 0, .ref (b 13), .ref (b 14), .ref (b 15), .int 0, .int 0, .int 0, .ref (b 16), .ref (b 17), .ref (b 18), .ref (b 19)])), (b 1, .inl (t 0, 841, .inl (fun _ => 0))), (b 16, .inl (t 0, 4, .inl mny))] s.heap := hP
  refine lv_iconst (v := 0) hx hb dX12_count__0 (by decide) ?_
  refine lv_istore_n (lv' := [(2, .int 0), (0, .ref (b 0)), (1, .int x)]) hx hb dX12_count__1 rfl hl (by decide) rfl (fun ls hl => ?_)
  refine lv_iload_n hx hb dX12_count__2 rfl (lv_at hl 2 rfl) ?_
  by_cases s_1 : x = 10
  · subst s_1
    refine lv_lookup (off := 25) (tgt := 28) hx hb dX12_count__3 (by decide) (by decide) (by decide) ?_
    refine lv_aload_n hx hb dX12_count__28 rfl (lv_at hl 1 rfl) ?_
    refine va_get (D := D) (ci := 12) (v := .int 0) (C := RX12) (T := TX12) (N := 40) hx hb hts iX12 hown hK hP 0 rfl rfl 5 (by decide) (hts _ m_1348) (fun _ h9 => h9) rfl dX12_count__29 ?_
    exact W.iret (v := 0) hx hb hr (fun t9 ht hW => ⟨⟨0, (), rfl, rfl, trivial⟩, hS.F ht⟩) hS.2.2 dX12_count__32
  · by_cases s_2 : x = 11
    · subst s_2
      refine lv_lookup (off := 30) (tgt := 33) hx hb dX12_count__3 (by decide) (by decide) (by decide) ?_
      refine lv_iconst (v := 0) hx hb dX12_count__33 (by decide) ?_
      refine lv_istore_n (lv' := [(3, .int 0), (2, .int 0), (0, .ref (b 0)), (1, .int 11)]) hx hb dX12_count__34 rfl hl (by decide) rfl (fun ls hl => ?_)
      refine lv_iload_n hx hb dX12_count__35 rfl (lv_at hl 0 rfl) ?_
      refine lv_iconst (v := 4) hx hb dX12_count__36 (by decide) ?_
      refine lv_icmp_ge (tgt := 64) hx hb dX12_count__37 (by decide) (fun c9 => absurd c9 (by decide)) (fun _ => ?_)
      refine lv_iload_n hx hb dX12_count__40 rfl (lv_at hl 1 rfl) ?_
      refine lv_aload_n hx hb dX12_count__41 rfl (lv_at hl 2 rfl) ?_
      refine va_get (D := D) (ci := 12) (v := .ref (b 16)) (C := RX12) (T := TX12) (N := 40) hx hb hts iX12 hown hK hP 0 rfl rfl 36 (by decide) (hts _ m_1379) (fun _ h9 => h9) rfl dX12_count__42 ?_
      refine lv_iload_n hx hb dX12_count__45 rfl (lv_at hl 0 rfl) ?_
      refine va_iald hx hb hK hP 2 0 rfl rfl (vp_in_nI (n := 0) (by decide) (by decide)) dX12_count__46 ?_
      refine x_seti (-1) (by decide) ?_
      refine lv_iconst (v := (-1)) hx hb dX12_count__47 (by decide) ?_
      refine lv_icmp_ne (tgt := 55) hx hb dX12_count__48 (by decide) (fun c9 => absurd c9 (by decide)) (fun _ => ?_)
      refine lv_iconst (v := 0) hx hb dX12_count__51 (by decide) ?_
      refine lv_goto (tgt := 56) hx hb dX12_count__52 (by decide) ?_
      refine lv_iadd hx hb dX12_count__56 ?_
      refine x_seti 0 (by decide) ?_
      refine lv_istore_n (lv' := [(2, .int 0), (3, .int 0), (0, .ref (b 0)), (1, .int 11)]) hx hb dX12_count__57 rfl hl (by decide) rfl (fun ls hl => ?_)
      refine lv_iinc (v := 1) (lv' := [(3, .int 1), (2, .int 0), (0, .ref (b 0)), (1, .int 11)]) hx hb dX12_count__58 hl (k := 1) rfl (by decide) (by decide) rfl (fun ls hl => ?_)
      refine lv_goto (tgt := 35) hx hb dX12_count__61 (by decide) ?_
      refine lv_iload_n hx hb dX12_count__35 rfl (lv_at hl 0 rfl) ?_
      refine lv_iconst (v := 4) hx hb dX12_count__36 (by decide) ?_
      refine lv_icmp_ge (tgt := 64) hx hb dX12_count__37 (by decide) (fun c9 => absurd c9 (by decide)) (fun _ => ?_)
      refine lv_iload_n hx hb dX12_count__40 rfl (lv_at hl 1 rfl) ?_
      refine lv_aload_n hx hb dX12_count__41 rfl (lv_at hl 2 rfl) ?_
      refine va_get (D := D) (ci := 12) (v := .ref (b 16)) (C := RX12) (T := TX12) (N := 40) hx hb hts iX12 hown hK hP 0 rfl rfl 36 (by decide) (hts _ m_1379) (fun _ h9 => h9) rfl dX12_count__42 ?_
      refine lv_iload_n hx hb dX12_count__45 rfl (lv_at hl 0 rfl) ?_
      refine va_iald hx hb hK hP 2 0 rfl rfl (vp_in_nI (n := 1) (by decide) (by decide)) dX12_count__46 ?_
      refine x_seti (-1) (by decide) ?_
      refine lv_iconst (v := (-1)) hx hb dX12_count__47 (by decide) ?_
      refine lv_icmp_ne (tgt := 55) hx hb dX12_count__48 (by decide) (fun c9 => absurd c9 (by decide)) (fun _ => ?_)
      refine lv_iconst (v := 0) hx hb dX12_count__51 (by decide) ?_
      refine lv_goto (tgt := 56) hx hb dX12_count__52 (by decide) ?_
      refine lv_iadd hx hb dX12_count__56 ?_
      refine x_seti 0 (by decide) ?_
      refine lv_istore_n (lv' := [(2, .int 0), (3, .int 1), (0, .ref (b 0)), (1, .int 11)]) hx hb dX12_count__57 rfl hl (by decide) rfl (fun ls hl => ?_)
      refine lv_iinc (v := 2) (lv' := [(3, .int 2), (2, .int 0), (0, .ref (b 0)), (1, .int 11)]) hx hb dX12_count__58 hl (k := 1) rfl (by decide) (by decide) rfl (fun ls hl => ?_)
      refine lv_goto (tgt := 35) hx hb dX12_count__61 (by decide) ?_
      refine lv_iload_n hx hb dX12_count__35 rfl (lv_at hl 0 rfl) ?_
      refine lv_iconst (v := 4) hx hb dX12_count__36 (by decide) ?_
      refine lv_icmp_ge (tgt := 64) hx hb dX12_count__37 (by decide) (fun c9 => absurd c9 (by decide)) (fun _ => ?_)
      refine lv_iload_n hx hb dX12_count__40 rfl (lv_at hl 1 rfl) ?_
      refine lv_aload_n hx hb dX12_count__41 rfl (lv_at hl 2 rfl) ?_
      refine va_get (D := D) (ci := 12) (v := .ref (b 16)) (C := RX12) (T := TX12) (N := 40) hx hb hts iX12 hown hK hP 0 rfl rfl 36 (by decide) (hts _ m_1379) (fun _ h9 => h9) rfl dX12_count__42 ?_
      refine lv_iload_n hx hb dX12_count__45 rfl (lv_at hl 0 rfl) ?_
      refine va_iald hx hb hK hP 2 0 rfl rfl (vp_in_nI (n := 2) (by decide) (by decide)) dX12_count__46 ?_
      refine x_seti (-1) (by decide) ?_
      refine lv_iconst (v := (-1)) hx hb dX12_count__47 (by decide) ?_
      refine lv_icmp_ne (tgt := 55) hx hb dX12_count__48 (by decide) (fun c9 => absurd c9 (by decide)) (fun _ => ?_)
      refine lv_iconst (v := 0) hx hb dX12_count__51 (by decide) ?_
      refine lv_goto (tgt := 56) hx hb dX12_count__52 (by decide) ?_
      refine lv_iadd hx hb dX12_count__56 ?_
      refine x_seti 0 (by decide) ?_
      refine lv_istore_n (lv' := [(2, .int 0), (3, .int 2), (0, .ref (b 0)), (1, .int 11)]) hx hb dX12_count__57 rfl hl (by decide) rfl (fun ls hl => ?_)
      refine lv_iinc (v := 3) (lv' := [(3, .int 3), (2, .int 0), (0, .ref (b 0)), (1, .int 11)]) hx hb dX12_count__58 hl (k := 1) rfl (by decide) (by decide) rfl (fun ls hl => ?_)
      refine lv_goto (tgt := 35) hx hb dX12_count__61 (by decide) ?_
      refine lv_iload_n hx hb dX12_count__35 rfl (lv_at hl 0 rfl) ?_
      refine lv_iconst (v := 4) hx hb dX12_count__36 (by decide) ?_
      refine lv_icmp_ge (tgt := 64) hx hb dX12_count__37 (by decide) (fun c9 => absurd c9 (by decide)) (fun _ => ?_)
      refine lv_iload_n hx hb dX12_count__40 rfl (lv_at hl 1 rfl) ?_
      refine lv_aload_n hx hb dX12_count__41 rfl (lv_at hl 2 rfl) ?_
      refine va_get (D := D) (ci := 12) (v := .ref (b 16)) (C := RX12) (T := TX12) (N := 40) hx hb hts iX12 hown hK hP 0 rfl rfl 36 (by decide) (hts _ m_1379) (fun _ h9 => h9) rfl dX12_count__42 ?_
      refine lv_iload_n hx hb dX12_count__45 rfl (lv_at hl 0 rfl) ?_
      refine va_iald hx hb hK hP 2 0 rfl rfl (vp_in_nI (n := 3) (by decide) (by decide)) dX12_count__46 ?_
      refine x_seti (-1) (by decide) ?_
      refine lv_iconst (v := (-1)) hx hb dX12_count__47 (by decide) ?_
      refine lv_icmp_ne (tgt := 55) hx hb dX12_count__48 (by decide) (fun c9 => absurd c9 (by decide)) (fun _ => ?_)
      refine lv_iconst (v := 0) hx hb dX12_count__51 (by decide) ?_
      refine lv_goto (tgt := 56) hx hb dX12_count__52 (by decide) ?_
      refine lv_iadd hx hb dX12_count__56 ?_
      refine x_seti 0 (by decide) ?_
      refine lv_istore_n (lv' := [(2, .int 0), (3, .int 3), (0, .ref (b 0)), (1, .int 11)]) hx hb dX12_count__57 rfl hl (by decide) rfl (fun ls hl => ?_)
      refine lv_iinc (v := 4) (lv' := [(3, .int 4), (2, .int 0), (0, .ref (b 0)), (1, .int 11)]) hx hb dX12_count__58 hl (k := 1) rfl (by decide) (by decide) rfl (fun ls hl => ?_)
      refine lv_goto (tgt := 35) hx hb dX12_count__61 (by decide) ?_
      refine lv_iload_n hx hb dX12_count__35 rfl (lv_at hl 0 rfl) ?_
      refine lv_iconst (v := 4) hx hb dX12_count__36 (by decide) ?_
      refine lv_icmp_ge (tgt := 64) hx hb dX12_count__37 (by decide) (fun _ => ?_) (fun c9 => absurd (by decide) c9)
      refine lv_iload_n hx hb dX12_count__64 rfl (lv_at hl 1 rfl) ?_
      exact W.iret (v := 0) hx hb hr (fun t9 ht hW => ⟨⟨0, (), rfl, rfl, trivial⟩, hS.F ht⟩) hS.2.2 dX12_count__65
    · refine lv_lookup (off := 63) (tgt := 66) hx hb dX12_count__3 (by decide) ((lv_osw s_1 (by decide)).trans ((lv_osw s_2 (by decide)).trans rfl)) (by decide) ?_
      refine lv_iload_n hx hb dX12_count__66 rfl (lv_at hl 2 rfl) ?_
      refine lv_i2l hx hb dX12_count__67 rfl ?_
      refine lv_lconst (v := 0) hx hb dX12_count__68 rfl ?_
      refine lv_ldc2 (v := 9) hx hb hown (hts _ m_2008) dX12_count__69 ?_
      refine x_pS hF (c_X12_in l D t x.toInt64 0 9) m_1469 m_1470 m_13 m_1471 hd_X12_in ⟨Nat.le_of_ble_eq_true rfl, Nat.le_of_ble_eq_true rfl⟩ hK hN hP hS [] rfl hl.1 rfl (Nat.le_of_ble_eq_true rfl) dX12_count__72 ⟨Nat.zero_le _, Nat.zero_le _⟩ (fun H locs hP hS => ?_)
      refine x_seti (ib 0 9 x) (inV_i x (by decide) (by decide)) ?_
      refine lv_if_eq (tgt := 87) hx hb dX12_count__75 (by decide) (fun c_3 => ?_) (fun c_3 => ?_)
      · refine lv_iconst (v := (-1)) hx hb dX12_count__87 (by decide) ?_
        exact W.iret (v := (-1)) hx hb hr (fun t9 ht hW => ⟨⟨(-1), (), rfl, (sp_cnt1 c_3 s_1 s_2), trivial⟩, hS.F ht⟩) hS.2.2 dX12_count__88
      · obtain ⟨j_4, hj_4, rfl⟩ := ib_nat (n := 10) c_3 (by decide)
        obtain rfl | rfl | rfl | rfl | rfl | rfl | rfl | rfl | rfl | rfl : j_4 = 0 ∨ j_4 = 1 ∨ j_4 = 2 ∨ j_4 = 3 ∨ j_4 = 4 ∨ j_4 = 5 ∨ j_4 = 6 ∨ j_4 = 7 ∨ j_4 = 8 ∨ j_4 = 9 := by omega
        · refine lv_aload_n hx hb dX12_count__78 rfl (lv_at hl 1 rfl) ?_
          refine va_get (D := D) (ci := 12) (v := .ref (b 1)) (C := RX12) (T := TX12) (N := 40) hx hb hts iX12 hown hK hP 0 rfl rfl 1 (by decide) (hts _ m_1344) (fun _ h9 => h9) rfl dX12_count__79 ?_
          refine lv_iload_n hx hb dX12_count__82 rfl (lv_at hl 2 rfl) ?_
          refine va_iald hx hb hK hP 1 0 rfl rfl (vp_in_nI (n := 0) (by decide) (by decide)) dX12_count__83 ?_
          refine x_seti 0 rfl ?_
          refine lv_goto (tgt := 88) hx hb dX12_count__84 (by decide) ?_
          exact W.iret (v := 0) hx hb hr (fun t9 ht hW => ⟨⟨0, (), rfl, rfl, trivial⟩, hS.F ht⟩) hS.2.2 dX12_count__88
        · refine lv_aload_n hx hb dX12_count__78 rfl (lv_at hl 1 rfl) ?_
          refine va_get (D := D) (ci := 12) (v := .ref (b 1)) (C := RX12) (T := TX12) (N := 40) hx hb hts iX12 hown hK hP 0 rfl rfl 1 (by decide) (hts _ m_1344) (fun _ h9 => h9) rfl dX12_count__79 ?_
          refine lv_iload_n hx hb dX12_count__82 rfl (lv_at hl 2 rfl) ?_
          refine va_iald hx hb hK hP 1 0 rfl rfl (vp_in_nI (n := 1) (by decide) (by decide)) dX12_count__83 ?_
          refine x_seti 0 rfl ?_
          refine lv_goto (tgt := 88) hx hb dX12_count__84 (by decide) ?_
          exact W.iret (v := 0) hx hb hr (fun t9 ht hW => ⟨⟨0, (), rfl, rfl, trivial⟩, hS.F ht⟩) hS.2.2 dX12_count__88
        · refine lv_aload_n hx hb dX12_count__78 rfl (lv_at hl 1 rfl) ?_
          refine va_get (D := D) (ci := 12) (v := .ref (b 1)) (C := RX12) (T := TX12) (N := 40) hx hb hts iX12 hown hK hP 0 rfl rfl 1 (by decide) (hts _ m_1344) (fun _ h9 => h9) rfl dX12_count__79 ?_
          refine lv_iload_n hx hb dX12_count__82 rfl (lv_at hl 2 rfl) ?_
          refine va_iald hx hb hK hP 1 0 rfl rfl (vp_in_nI (n := 2) (by decide) (by decide)) dX12_count__83 ?_
          refine x_seti 0 rfl ?_
          refine lv_goto (tgt := 88) hx hb dX12_count__84 (by decide) ?_
          exact W.iret (v := 0) hx hb hr (fun t9 ht hW => ⟨⟨0, (), rfl, rfl, trivial⟩, hS.F ht⟩) hS.2.2 dX12_count__88
        · refine lv_aload_n hx hb dX12_count__78 rfl (lv_at hl 1 rfl) ?_
          refine va_get (D := D) (ci := 12) (v := .ref (b 1)) (C := RX12) (T := TX12) (N := 40) hx hb hts iX12 hown hK hP 0 rfl rfl 1 (by decide) (hts _ m_1344) (fun _ h9 => h9) rfl dX12_count__79 ?_
          refine lv_iload_n hx hb dX12_count__82 rfl (lv_at hl 2 rfl) ?_
          refine va_iald hx hb hK hP 1 0 rfl rfl (vp_in_nI (n := 3) (by decide) (by decide)) dX12_count__83 ?_
          refine x_seti 0 rfl ?_
          refine lv_goto (tgt := 88) hx hb dX12_count__84 (by decide) ?_
          exact W.iret (v := 0) hx hb hr (fun t9 ht hW => ⟨⟨0, (), rfl, rfl, trivial⟩, hS.F ht⟩) hS.2.2 dX12_count__88
        · refine lv_aload_n hx hb dX12_count__78 rfl (lv_at hl 1 rfl) ?_
          refine va_get (D := D) (ci := 12) (v := .ref (b 1)) (C := RX12) (T := TX12) (N := 40) hx hb hts iX12 hown hK hP 0 rfl rfl 1 (by decide) (hts _ m_1344) (fun _ h9 => h9) rfl dX12_count__79 ?_
          refine lv_iload_n hx hb dX12_count__82 rfl (lv_at hl 2 rfl) ?_
          refine va_iald hx hb hK hP 1 0 rfl rfl (vp_in_nI (n := 4) (by decide) (by decide)) dX12_count__83 ?_
          refine x_seti 0 rfl ?_
          refine lv_goto (tgt := 88) hx hb dX12_count__84 (by decide) ?_
          exact W.iret (v := 0) hx hb hr (fun t9 ht hW => ⟨⟨0, (), rfl, rfl, trivial⟩, hS.F ht⟩) hS.2.2 dX12_count__88
        · refine lv_aload_n hx hb dX12_count__78 rfl (lv_at hl 1 rfl) ?_
          refine va_get (D := D) (ci := 12) (v := .ref (b 1)) (C := RX12) (T := TX12) (N := 40) hx hb hts iX12 hown hK hP 0 rfl rfl 1 (by decide) (hts _ m_1344) (fun _ h9 => h9) rfl dX12_count__79 ?_
          refine lv_iload_n hx hb dX12_count__82 rfl (lv_at hl 2 rfl) ?_
          refine va_iald hx hb hK hP 1 0 rfl rfl (vp_in_nI (n := 5) (by decide) (by decide)) dX12_count__83 ?_
          refine x_seti 0 rfl ?_
          refine lv_goto (tgt := 88) hx hb dX12_count__84 (by decide) ?_
          exact W.iret (v := 0) hx hb hr (fun t9 ht hW => ⟨⟨0, (), rfl, rfl, trivial⟩, hS.F ht⟩) hS.2.2 dX12_count__88
        · refine lv_aload_n hx hb dX12_count__78 rfl (lv_at hl 1 rfl) ?_
          refine va_get (D := D) (ci := 12) (v := .ref (b 1)) (C := RX12) (T := TX12) (N := 40) hx hb hts iX12 hown hK hP 0 rfl rfl 1 (by decide) (hts _ m_1344) (fun _ h9 => h9) rfl dX12_count__79 ?_
          refine lv_iload_n hx hb dX12_count__82 rfl (lv_at hl 2 rfl) ?_
          refine va_iald hx hb hK hP 1 0 rfl rfl (vp_in_nI (n := 6) (by decide) (by decide)) dX12_count__83 ?_
          refine x_seti 0 rfl ?_
          refine lv_goto (tgt := 88) hx hb dX12_count__84 (by decide) ?_
          exact W.iret (v := 0) hx hb hr (fun t9 ht hW => ⟨⟨0, (), rfl, rfl, trivial⟩, hS.F ht⟩) hS.2.2 dX12_count__88
        · refine lv_aload_n hx hb dX12_count__78 rfl (lv_at hl 1 rfl) ?_
          refine va_get (D := D) (ci := 12) (v := .ref (b 1)) (C := RX12) (T := TX12) (N := 40) hx hb hts iX12 hown hK hP 0 rfl rfl 1 (by decide) (hts _ m_1344) (fun _ h9 => h9) rfl dX12_count__79 ?_
          refine lv_iload_n hx hb dX12_count__82 rfl (lv_at hl 2 rfl) ?_
          refine va_iald hx hb hK hP 1 0 rfl rfl (vp_in_nI (n := 7) (by decide) (by decide)) dX12_count__83 ?_
          refine x_seti 0 rfl ?_
          refine lv_goto (tgt := 88) hx hb dX12_count__84 (by decide) ?_
          exact W.iret (v := 0) hx hb hr (fun t9 ht hW => ⟨⟨0, (), rfl, rfl, trivial⟩, hS.F ht⟩) hS.2.2 dX12_count__88
        · refine lv_aload_n hx hb dX12_count__78 rfl (lv_at hl 1 rfl) ?_
          refine va_get (D := D) (ci := 12) (v := .ref (b 1)) (C := RX12) (T := TX12) (N := 40) hx hb hts iX12 hown hK hP 0 rfl rfl 1 (by decide) (hts _ m_1344) (fun _ h9 => h9) rfl dX12_count__79 ?_
          refine lv_iload_n hx hb dX12_count__82 rfl (lv_at hl 2 rfl) ?_
          refine va_iald hx hb hK hP 1 0 rfl rfl (vp_in_nI (n := 8) (by decide) (by decide)) dX12_count__83 ?_
          refine x_seti 0 rfl ?_
          refine lv_goto (tgt := 88) hx hb dX12_count__84 (by decide) ?_
          exact W.iret (v := 0) hx hb hr (fun t9 ht hW => ⟨⟨0, (), rfl, rfl, trivial⟩, hS.F ht⟩) hS.2.2 dX12_count__88
        · refine lv_aload_n hx hb dX12_count__78 rfl (lv_at hl 1 rfl) ?_
          refine va_get (D := D) (ci := 12) (v := .ref (b 1)) (C := RX12) (T := TX12) (N := 40) hx hb hts iX12 hown hK hP 0 rfl rfl 1 (by decide) (hts _ m_1344) (fun _ h9 => h9) rfl dX12_count__79 ?_
          refine lv_iload_n hx hb dX12_count__82 rfl (lv_at hl 2 rfl) ?_
          refine va_iald hx hb hK hP 1 0 rfl rfl (vp_in_nI (n := 9) (by decide) (by decide)) dX12_count__83 ?_
          refine x_seti 0 rfl ?_
          refine lv_goto (tgt := 88) hx hb dX12_count__84 (by decide) ?_
          exact W.iret (v := 0) hx hb hr (fun t9 ht hW => ⟨⟨0, (), rfl, rfl, trivial⟩, hS.F ht⟩) hS.2.2 dX12_count__88

